def zl_at (p : Program) (l : Launch) (e : Env) (s : State) (m : MethodId) (args : Array Value) (below : List Frame) (meth : Method) (c : Code) (D : va_G) (dA : Nat → ClassId) (b base : Nat) (Q : State → Prop) (KC KS pc i : Nat) : Prop :=
  ∀ (h : zk_H) (V : Nat → zo_O) (S : zo_O) (us : Nat) (uk ut un : Nat → Nat) (ua : Nat → Int32) (B E : Nat → Int32), h.length = 51 → zc_at h V uk ut un ua us B E → zm_at h S us → zm_J V S us uk ut un ua → zk_V p l e room_1 s m args below meth c 8 D dA b base Q KC KS pc [some (.ref 0), some (.ref (0 + 1)), some (.ref (38 + 1)), some (.int (nI i)), none, none, none, none] [] h
theorem zm_at_c {h h' : zk_H} {S : zo_O} {us : Nat} (hM : zm_at h S us) (f : zc_fr h h') : zm_at h' S us := by
  obtain ⟨hm, s0, s1, s2, s3, s4, s5, s6, s7, s8, s9, s10, s11⟩ := hM
  exact ⟨(f.2 38 (by decide)).trans hm, (f.2 39 (by decide)).trans s0, (f.2 40 (by decide)).trans s1, (f.2 41 (by decide)).trans s2, (f.2 42 (by decide)).trans s3, (f.2 43 (by decide)).trans s4, (f.2 44 (by decide)).trans s5, (f.2 45 (by decide)).trans s6, (f.2 46 (by decide)).trans s7, (f.2 47 (by decide)).trans s8, (f.2 48 (by decide)).trans s9, (f.2 49 (by decide)).trans s10, (f.2 50 (by decide)).trans s11⟩
theorem zc_at_c {h h' : zk_H} {V : Nat → zo_O} {uk ut un : Nat → Nat} {ua : Nat → Int32} {uc : Nat} {B E : Nat → Int32} (hS : zc_at h V uk ut un ua uc B E) (f : ∀ i, i < 38 → h'[i]? = h[i]?) : zc_at h' V uk ut un ua uc B E := by
  obtain ⟨s0, s1, s2, ⟨f3, s3, s4⟩, s5, s6, s7⟩ := hS
  exact ⟨(f 0 (by decide)).trans s0, zo_at_kept s1 (fun j _ h2 => f j (by omega)), zo_at_kept s2 (fun j _ h2 => f j (by omega)), ⟨f3, (f 19 (by decide)).trans s3, s4⟩, fun j hj => (f _ (by omega)).trans (s5 j hj), (f 36 (by decide)).trans s6, (f 37 (by decide)).trans s7⟩
theorem zr_less {p : Program} {l : Launch} {e : Env} {R : Room} {s : State} {m : MethodId} {args : Array Value} {below : List Frame} {meth : Method} {c : Code} {nL : Nat} {D : va_G} {dA : Nat → ClassId} {b base : Nat} {Q : State → Prop} {kc ks pc : Nat} {st : List Value} {h : zk_H} {ll ll' : List (Option Value)} (hll : ∀ (i : Nat) (v : Value), ll'[i]? = some (some v) → ll[i]? = some (some v)) (k : zk_V p l e R s m args below meth c nL D dA b base Q kc ks pc ll' st h) : zk_V p l e R s m args below meth c nL D dA b base Q kc ks pc ll st h :=
  fun H locs ls hl hP hz hS => k H locs ls ⟨hl.1, hl.2.1, fun i v hv => hl.2.2 i v (hll i v hv)⟩ hP hz hS
theorem zl_four {a0 a1 a2 a3 : Option Value} {a4 a5 a6 a7 : Option Value} (i : Nat) (v : Value) (hv : [a0, a1, a2, a3, none, none, none, none][i]? = some (some v)) : [a0, a1, a2, a3, a4, a5, a6, a7][i]? = some (some v) := by
  match i, hv with
  | 0, hv => exact hv
  | 1, hv => exact hv
  | 2, hv => exact hv
  | 3, hv => exact hv
  | 4, hv => cases hv
  | 5, hv => cases hv
  | 6, hv => cases hv
  | 7, hv => cases hv
  | n + 8, hv => simp at hv
theorem zl_neg : ∀ k, k < 6 → nI k - nI 6 < 0 := by decide +kernel
theorem zl_six {L i : Nat} (hL : L ≤ 3072) (hi : i ≤ L) (h : ¬ nI L - nI 6 < nI i) : i + 6 ≤ L := by
  by_cases q : 6 ≤ L
  · obtain ⟨r, rfl⟩ : ∃ r, L = r + 6 := ⟨L - 6, by omega⟩
    rw [← nI_add, show nI r + nI 6 - nI 6 = nI r from Int32.add_sub_cancel _ _] at h
    have := zk_nlt (a := r) (b := i) (by omega) (by omega) h
    omega
  · exfalso
    refine h (Int32.lt_of_lt_of_le (zl_neg L (by omega)) ?_)
    rw [← nI_0]
    exact (nI_leI (by decide) (by omega)).mpr (Nat.zero_le i)
theorem zl_31 (x : Int32) : ∃ k, k < 32 ∧ x &&& nI 31 = nI k := by
  refine ⟨(x &&& nI 31).toBitVec.toNat, ?_, ?_⟩
  · rw [Int32.toBitVec_and, BitVec.toNat_and]
    exact Nat.lt_of_le_of_lt Nat.and_le_right (by decide)
  · apply Int32.toBitVec_inj.mp
    show _ = (Int32.ofNat _).toBitVec
    rw [Int32.toBitVec_ofNat']
    simp
theorem zl_17 : ∀ k, k < 32 → 17 ≤ k → (16 : Int) < (nI k).toInt := by decide +kernel
set_option maxHeartbeats 4000000 in
set_option maxRecDepth 100000 in
theorem law_c0 {p : Program} {l : Launch} {e : Env} {s : State} {m : MethodId} {args : Array Value} {below : List Frame} {meth : Method} {c : Code} {nm : String} {rt : Option FieldType} {D : va_G} {dA : Nat → ClassId} {b base sz : Nat} {Q : State → Prop} {KC KS L i : Nat} {xs : Nat → Int32} (C : zk_C p s m meth c code 8 R_L nm rt D dA base sz) (hX : va_X b L xs s s.heap) (hbl : b < base) (hL : L ≤ 3072) (hi : i + 6 ≤ L) (hKC : KC ≤ room_1.cells) (hKS : KS ≤ room_1.slots) (kn : zl_at p l e s m args below meth c D dA b base Q KC KS 753 i) : zl_at p l e s m args below meth c D dA b base Q KC KS 116 i := by
  intro h V S us uk ut un ua B E hn hS hM hJ
  refine zr_aload_n C d_L_law_116 (n := 117) rfl rfl ?_
  refine zr_aload_n C d_L_law_117 (n := 118) rfl rfl ?_
  refine zr_iload_n C d_L_law_118 (n := 119) rfl rfl ?_
  refine zr_iconst C d_L_law_119 (n := 120) rfl (v := nI 1) (by decide) ?_
  refine zr_iadd C d_L_law_120 (n := 121) rfl ?_
  refine zr_toe (nI_add i 1) ?_
  refine zr_sld C hX hbl d_L_law_121 (n := 122) rfl (vp_in_nI (by omega) (by omega)) ?_
  refine zr_aload_n C d_L_law_122 (n := 123) rfl rfl ?_
  refine zr_iload_n C d_L_law_123 (n := 124) rfl rfl ?_
  refine zr_iconst C d_L_law_124 (n := 125) rfl (v := nI 2) (by decide) ?_
  refine zr_iadd C d_L_law_125 (n := 126) rfl ?_
  refine zr_toe (nI_add i 2) ?_
  refine zr_sld C hX hbl d_L_law_126 (n := 127) rfl (vp_in_nI (by omega) (by omega)) ?_
  refine zr_aload_n C d_L_law_127 (n := 128) rfl rfl ?_
  refine zr_iload_n C d_L_law_128 (n := 129) rfl rfl ?_
  refine zr_iconst C d_L_law_129 (n := 130) rfl (v := nI 3) (by decide) ?_
  refine zr_iadd C d_L_law_130 (n := 131) rfl ?_
  refine zr_toe (nI_add i 3) ?_
  refine zr_sld C hX hbl d_L_law_131 (n := 132) rfl (vp_in_nI (by omega) (by omega)) ?_
  refine zr_aload_n C d_L_law_132 (n := 133) rfl rfl ?_
  refine zr_iload_n C d_L_law_133 (n := 134) rfl rfl ?_
  refine zr_iconst C d_L_law_134 (n := 135) rfl (v := nI 4) (by decide) ?_
  refine zr_iadd C d_L_law_135 (n := 136) rfl ?_
  refine zr_toe (nI_add i 4) ?_
  refine zr_sld C hX hbl d_L_law_136 (n := 137) rfl (vp_in_nI (by omega) (by omega)) ?_
  refine zr_aload_n C d_L_law_137 (n := 138) rfl rfl ?_
  refine zr_iload_n C d_L_law_138 (n := 139) rfl rfl ?_
  refine zr_iconst C d_L_law_139 (n := 140) rfl (v := nI 5) (by decide) ?_
  refine zr_iadd C d_L_law_140 (n := 141) rfl ?_
  refine zr_toe (nI_add i 5) ?_
  refine zr_sld C hX hbl d_L_law_141 (n := 142) rfl (vp_in_nI (by omega) (by omega)) ?_
  refine zr_callV5 C k_L_13 d_L_law_142 (nx := 145) (rm := rm_A_type) rfl hS.1 rfl ⟨Nat.le_of_ble_eq_true rfl, Nat.le_of_ble_eq_true rfl⟩ (Nat.le_of_ble_eq_true rfl) ⟨hKC, hKS⟩ (sp_A_type l hS (fun h1 B1 E1 hS1 f1 => ?_))
  have hM1 := zm_at_c hM f1
  refine zr_aload_n C d_L_law_145 (n := 146) rfl rfl ?_
  refine zr_aload_n C d_L_law_146 (n := 147) rfl rfl ?_
  refine zr_iload_n C d_L_law_147 (n := 148) rfl rfl ?_
  refine zr_iconst C d_L_law_148 (n := 149) rfl (v := nI 1) (by decide) ?_
  refine zr_iadd C d_L_law_149 (n := 150) rfl ?_
  refine zr_toe (nI_add i 1) ?_
  refine zr_sld C hX hbl d_L_law_150 (n := 151) rfl (vp_in_nI (by omega) (by omega)) ?_
  refine zr_aload_n C d_L_law_151 (n := 152) rfl rfl ?_
  refine zr_iload_n C d_L_law_152 (n := 153) rfl rfl ?_
  refine zr_iconst C d_L_law_153 (n := 154) rfl (v := nI 2) (by decide) ?_
  refine zr_iadd C d_L_law_154 (n := 155) rfl ?_
  refine zr_toe (nI_add i 2) ?_
  refine zr_sld C hX hbl d_L_law_155 (n := 156) rfl (vp_in_nI (by omega) (by omega)) ?_
  refine zr_aload_n C d_L_law_156 (n := 157) rfl rfl ?_
  refine zr_iload_n C d_L_law_157 (n := 158) rfl rfl ?_
  refine zr_iconst C d_L_law_158 (n := 159) rfl (v := nI 3) (by decide) ?_
  refine zr_iadd C d_L_law_159 (n := 160) rfl ?_
  refine zr_toe (nI_add i 3) ?_
  refine zr_sld C hX hbl d_L_law_160 (n := 161) rfl (vp_in_nI (by omega) (by omega)) ?_
  refine zr_aload_n C d_L_law_161 (n := 162) rfl rfl ?_
  refine zr_iload_n C d_L_law_162 (n := 163) rfl rfl ?_
  refine zr_iconst C d_L_law_163 (n := 164) rfl (v := nI 4) (by decide) ?_
  refine zr_iadd C d_L_law_164 (n := 165) rfl ?_
  refine zr_toe (nI_add i 4) ?_
  refine zr_sld C hX hbl d_L_law_165 (n := 166) rfl (vp_in_nI (by omega) (by omega)) ?_
  refine zr_aload_n C d_L_law_166 (n := 167) rfl rfl ?_
  refine zr_iload_n C d_L_law_167 (n := 168) rfl rfl ?_
  refine zr_iconst C d_L_law_168 (n := 169) rfl (v := nI 5) (by decide) ?_
  refine zr_iadd C d_L_law_169 (n := 170) rfl ?_
  refine zr_toe (nI_add i 5) ?_
  refine zr_sld C hX hbl d_L_law_170 (n := 171) rfl (vp_in_nI (by omega) (by omega)) ?_
  refine zr_callV5 C k_L_17 d_L_law_171 (nx := 174) (rm := rm_M_type) rfl hM1.1 rfl ⟨Nat.le_of_ble_eq_true rfl, Nat.le_of_ble_eq_true rfl⟩ (Nat.le_of_ble_eq_true rfl) ⟨hKC, hKS⟩ (sp_M_type l hM1 hJ (fun h2 S2 hM2 f2 hJ2 => ?_))
  refine zr_icmp_eq C d_L_law_174 (n := 177) rfl (t := 753) (by decide) (fun _ => ?_) (fun q => absurd rfl q)
  exact kn h2 _ S2 _ _ _ _ _ B1 E1 (f2.2.trans (f1.1.trans hn)) (zc_at_c hS1 f2.1) hM2 hJ2
set_option maxHeartbeats 4000000 in
set_option maxRecDepth 100000 in
theorem law_c1 {p : Program} {l : Launch} {e : Env} {s : State} {m : MethodId} {args : Array Value} {below : List Frame} {meth : Method} {c : Code} {nm : String} {rt : Option FieldType} {D : va_G} {dA : Nat → ClassId} {b base sz : Nat} {Q : State → Prop} {KC KS L i : Nat} {xs : Nat → Int32} (C : zk_C p s m meth c code 8 R_L nm rt D dA base sz) (hX : va_X b L xs s s.heap) (hbl : b < base) (hL : L ≤ 3072) (hi : i + 6 ≤ L) (hKC : KC ≤ room_1.cells) (hKS : KS ≤ room_1.slots) (kn : zl_at p l e s m args below meth c D dA b base Q KC KS 753 i) : zl_at p l e s m args below meth c D dA b base Q KC KS 179 i := by
  intro h V S us uk ut un ua B E hn hS hM hJ
  refine zr_aload_n C d_L_law_179 (n := 180) rfl rfl ?_
  refine zr_aload_n C d_L_law_180 (n := 181) rfl rfl ?_
  refine zr_iload_n C d_L_law_181 (n := 182) rfl rfl ?_
  refine zr_iconst C d_L_law_182 (n := 183) rfl (v := nI 1) (by decide) ?_
  refine zr_iadd C d_L_law_183 (n := 184) rfl ?_
  refine zr_toe (nI_add i 1) ?_
  refine zr_sld C hX hbl d_L_law_184 (n := 185) rfl (vp_in_nI (by omega) (by omega)) ?_
  refine zr_aload_n C d_L_law_185 (n := 186) rfl rfl ?_
  refine zr_iload_n C d_L_law_186 (n := 187) rfl rfl ?_
  refine zr_iconst C d_L_law_187 (n := 188) rfl (v := nI 2) (by decide) ?_
  refine zr_iadd C d_L_law_188 (n := 189) rfl ?_
  refine zr_toe (nI_add i 2) ?_
  refine zr_sld C hX hbl d_L_law_189 (n := 190) rfl (vp_in_nI (by omega) (by omega)) ?_
  refine zr_callV2 C k_L_18 d_L_law_190 (nx := 193) (rm := rm_A_drop) rfl hS.1 rfl ⟨Nat.le_of_ble_eq_true rfl, Nat.le_of_ble_eq_true rfl⟩ (Nat.le_of_ble_eq_true rfl) ⟨hKC, hKS⟩ (sp_A_drop l hS (fun h1 B1 E1 hS1 f1 => ?_))
  have hM1 := zm_at_c hM f1
  refine zr_aload_n C d_L_law_193 (n := 194) rfl rfl ?_
  refine zr_aload_n C d_L_law_194 (n := 195) rfl rfl ?_
  refine zr_iload_n C d_L_law_195 (n := 196) rfl rfl ?_
  refine zr_iconst C d_L_law_196 (n := 197) rfl (v := nI 1) (by decide) ?_
  refine zr_iadd C d_L_law_197 (n := 198) rfl ?_
  refine zr_toe (nI_add i 1) ?_
  refine zr_sld C hX hbl d_L_law_198 (n := 199) rfl (vp_in_nI (by omega) (by omega)) ?_
  refine zr_aload_n C d_L_law_199 (n := 200) rfl rfl ?_
  refine zr_iload_n C d_L_law_200 (n := 201) rfl rfl ?_
  refine zr_iconst C d_L_law_201 (n := 202) rfl (v := nI 2) (by decide) ?_
  refine zr_iadd C d_L_law_202 (n := 203) rfl ?_
  refine zr_toe (nI_add i 2) ?_
  refine zr_sld C hX hbl d_L_law_203 (n := 204) rfl (vp_in_nI (by omega) (by omega)) ?_
  refine zr_callV2 C k_L_22 d_L_law_204 (nx := 207) (rm := rm_M_drop) rfl hM1.1 rfl ⟨Nat.le_of_ble_eq_true rfl, Nat.le_of_ble_eq_true rfl⟩ (Nat.le_of_ble_eq_true rfl) ⟨hKC, hKS⟩ (sp_M_drop l hM1 hJ (fun h2 S2 hM2 f2 hJ2 => ?_))
  refine zr_icmp_eq C d_L_law_207 (n := 210) rfl (t := 753) (by decide) (fun _ => ?_) (fun q => absurd rfl q)
  exact kn h2 _ S2 _ _ _ _ _ B1 E1 (f2.2.trans (f1.1.trans hn)) (zc_at_c hS1 f2.1) hM2 hJ2
set_option maxHeartbeats 4000000 in
set_option maxRecDepth 100000 in
theorem law_c2 {p : Program} {l : Launch} {e : Env} {s : State} {m : MethodId} {args : Array Value} {below : List Frame} {meth : Method} {c : Code} {nm : String} {rt : Option FieldType} {D : va_G} {dA : Nat → ClassId} {b base sz : Nat} {Q : State → Prop} {KC KS L i : Nat} {xs : Nat → Int32} (C : zk_C p s m meth c code 8 R_L nm rt D dA base sz) (hX : va_X b L xs s s.heap) (hbl : b < base) (hL : L ≤ 3072) (hi : i + 6 ≤ L) (hKC : KC ≤ room_1.cells) (hKS : KS ≤ room_1.slots) (kn : zl_at p l e s m args below meth c D dA b base Q KC KS 753 i) : zl_at p l e s m args below meth c D dA b base Q KC KS 212 i := by
  intro h V S us uk ut un ua B E hn hS hM hJ
  refine zr_aload_n C d_L_law_212 (n := 213) rfl rfl ?_
  refine zr_aload_n C d_L_law_213 (n := 214) rfl rfl ?_
  refine zr_iload_n C d_L_law_214 (n := 215) rfl rfl ?_
  refine zr_iconst C d_L_law_215 (n := 216) rfl (v := nI 1) (by decide) ?_
  refine zr_iadd C d_L_law_216 (n := 217) rfl ?_
  refine zr_toe (nI_add i 1) ?_
  refine zr_sld C hX hbl d_L_law_217 (n := 218) rfl (vp_in_nI (by omega) (by omega)) ?_
  refine zr_aload_n C d_L_law_218 (n := 219) rfl rfl ?_
  refine zr_iload_n C d_L_law_219 (n := 220) rfl rfl ?_
  refine zr_iconst C d_L_law_220 (n := 221) rfl (v := nI 2) (by decide) ?_
  refine zr_iadd C d_L_law_221 (n := 222) rfl ?_
  refine zr_toe (nI_add i 2) ?_
  refine zr_sld C hX hbl d_L_law_222 (n := 223) rfl (vp_in_nI (by omega) (by omega)) ?_
  refine zr_aload_n C d_L_law_223 (n := 224) rfl rfl ?_
  refine zr_iload_n C d_L_law_224 (n := 225) rfl rfl ?_
  refine zr_iconst C d_L_law_225 (n := 226) rfl (v := nI 3) (by decide) ?_
  refine zr_iadd C d_L_law_226 (n := 227) rfl ?_
  refine zr_toe (nI_add i 3) ?_
  refine zr_sld C hX hbl d_L_law_227 (n := 228) rfl (vp_in_nI (by omega) (by omega)) ?_
  refine zr_aload_n C d_L_law_228 (n := 229) rfl rfl ?_
  refine zr_iload_n C d_L_law_229 (n := 230) rfl rfl ?_
  refine zr_iconst C d_L_law_230 (n := 231) rfl (v := nI 4) (by decide) ?_
  refine zr_iadd C d_L_law_231 (n := 232) rfl ?_
  refine zr_toe (nI_add i 4) ?_
  refine zr_sld C hX hbl d_L_law_232 (n := 233) rfl (vp_in_nI (by omega) (by omega)) ?_
  refine zr_callV4 C k_L_23 d_L_law_233 (nx := 236) (rm := rm_A_field) rfl hS.1 rfl ⟨Nat.le_of_ble_eq_true rfl, Nat.le_of_ble_eq_true rfl⟩ (Nat.le_of_ble_eq_true rfl) ⟨hKC, hKS⟩ (sp_A_field l hS (fun h1 B1 E1 hS1 f1 => ?_))
  have hM1 := zm_at_c hM f1
  refine zr_aload_n C d_L_law_236 (n := 237) rfl rfl ?_
  refine zr_aload_n C d_L_law_237 (n := 238) rfl rfl ?_
  refine zr_iload_n C d_L_law_238 (n := 239) rfl rfl ?_
  refine zr_iconst C d_L_law_239 (n := 240) rfl (v := nI 1) (by decide) ?_
  refine zr_iadd C d_L_law_240 (n := 241) rfl ?_
  refine zr_toe (nI_add i 1) ?_
  refine zr_sld C hX hbl d_L_law_241 (n := 242) rfl (vp_in_nI (by omega) (by omega)) ?_
  refine zr_aload_n C d_L_law_242 (n := 243) rfl rfl ?_
  refine zr_iload_n C d_L_law_243 (n := 244) rfl rfl ?_
  refine zr_iconst C d_L_law_244 (n := 245) rfl (v := nI 2) (by decide) ?_
  refine zr_iadd C d_L_law_245 (n := 246) rfl ?_
  refine zr_toe (nI_add i 2) ?_
  refine zr_sld C hX hbl d_L_law_246 (n := 247) rfl (vp_in_nI (by omega) (by omega)) ?_
  refine zr_aload_n C d_L_law_247 (n := 248) rfl rfl ?_
  refine zr_iload_n C d_L_law_248 (n := 249) rfl rfl ?_
  refine zr_iconst C d_L_law_249 (n := 250) rfl (v := nI 3) (by decide) ?_
  refine zr_iadd C d_L_law_250 (n := 251) rfl ?_
  refine zr_toe (nI_add i 3) ?_
  refine zr_sld C hX hbl d_L_law_251 (n := 252) rfl (vp_in_nI (by omega) (by omega)) ?_
  refine zr_aload_n C d_L_law_252 (n := 253) rfl rfl ?_
  refine zr_iload_n C d_L_law_253 (n := 254) rfl rfl ?_
  refine zr_iconst C d_L_law_254 (n := 255) rfl (v := nI 4) (by decide) ?_
  refine zr_iadd C d_L_law_255 (n := 256) rfl ?_
  refine zr_toe (nI_add i 4) ?_
  refine zr_sld C hX hbl d_L_law_256 (n := 257) rfl (vp_in_nI (by omega) (by omega)) ?_
  refine zr_callV4 C k_L_27 d_L_law_257 (nx := 260) (rm := rm_M_field) rfl hM1.1 rfl ⟨Nat.le_of_ble_eq_true rfl, Nat.le_of_ble_eq_true rfl⟩ (Nat.le_of_ble_eq_true rfl) ⟨hKC, hKS⟩ (sp_M_field l hM1 hJ (fun h2 S2 hM2 f2 hJ2 => ?_))
  refine zr_icmp_eq C d_L_law_260 (n := 263) rfl (t := 753) (by decide) (fun _ => ?_) (fun q => absurd rfl q)
  exact kn h2 _ S2 _ _ _ _ _ B1 E1 (f2.2.trans (f1.1.trans hn)) (zc_at_c hS1 f2.1) hM2 hJ2
set_option maxHeartbeats 4000000 in
set_option maxRecDepth 100000 in
theorem law_c3 {p : Program} {l : Launch} {e : Env} {s : State} {m : MethodId} {args : Array Value} {below : List Frame} {meth : Method} {c : Code} {nm : String} {rt : Option FieldType} {D : va_G} {dA : Nat → ClassId} {b base sz : Nat} {Q : State → Prop} {KC KS L i : Nat} {xs : Nat → Int32} (C : zk_C p s m meth c code 8 R_L nm rt D dA base sz) (hX : va_X b L xs s s.heap) (hbl : b < base) (hL : L ≤ 3072) (hi : i + 6 ≤ L) (hKC : KC ≤ room_1.cells) (hKS : KS ≤ room_1.slots) (kn : zl_at p l e s m args below meth c D dA b base Q KC KS 753 i) : zl_at p l e s m args below meth c D dA b base Q KC KS 265 i := by
  intro h V S us uk ut un ua B E hn hS hM hJ
  refine zr_aload_n C d_L_law_265 (n := 266) rfl rfl ?_
  refine zr_aload_n C d_L_law_266 (n := 267) rfl rfl ?_
  refine zr_iload_n C d_L_law_267 (n := 268) rfl rfl ?_
  refine zr_iconst C d_L_law_268 (n := 269) rfl (v := nI 1) (by decide) ?_
  refine zr_iadd C d_L_law_269 (n := 270) rfl ?_
  refine zr_toe (nI_add i 1) ?_
  refine zr_sld C hX hbl d_L_law_270 (n := 271) rfl (vp_in_nI (by omega) (by omega)) ?_
  refine zr_aload_n C d_L_law_271 (n := 272) rfl rfl ?_
  refine zr_iload_n C d_L_law_272 (n := 273) rfl rfl ?_
  refine zr_iconst C d_L_law_273 (n := 274) rfl (v := nI 2) (by decide) ?_
  refine zr_iadd C d_L_law_274 (n := 275) rfl ?_
  refine zr_toe (nI_add i 2) ?_
  refine zr_sld C hX hbl d_L_law_275 (n := 276) rfl (vp_in_nI (by omega) (by omega)) ?_
  refine zr_aload_n C d_L_law_276 (n := 277) rfl rfl ?_
  refine zr_iload_n C d_L_law_277 (n := 278) rfl rfl ?_
  refine zr_iconst C d_L_law_278 (n := 279) rfl (v := nI 3) (by decide) ?_
  refine zr_iadd C d_L_law_279 (n := 280) rfl ?_
  refine zr_toe (nI_add i 3) ?_
  refine zr_sld C hX hbl d_L_law_280 (n := 281) rfl (vp_in_nI (by omega) (by omega)) ?_
  refine zr_aload_n C d_L_law_281 (n := 282) rfl rfl ?_
  refine zr_iload_n C d_L_law_282 (n := 283) rfl rfl ?_
  refine zr_iconst C d_L_law_283 (n := 284) rfl (v := nI 4) (by decide) ?_
  refine zr_iadd C d_L_law_284 (n := 285) rfl ?_
  refine zr_toe (nI_add i 4) ?_
  refine zr_sld C hX hbl d_L_law_285 (n := 286) rfl (vp_in_nI (by omega) (by omega)) ?_
  refine zr_callV4 C k_L_28 d_L_law_286 (nx := 289) (rm := rm_A_method) rfl hS.1 rfl ⟨Nat.le_of_ble_eq_true rfl, Nat.le_of_ble_eq_true rfl⟩ (Nat.le_of_ble_eq_true rfl) ⟨hKC, hKS⟩ (sp_A_method l hS (fun h1 B1 E1 hS1 f1 => ?_))
  have hM1 := zm_at_c hM f1
  refine zr_aload_n C d_L_law_289 (n := 290) rfl rfl ?_
  refine zr_aload_n C d_L_law_290 (n := 291) rfl rfl ?_
  refine zr_iload_n C d_L_law_291 (n := 292) rfl rfl ?_
  refine zr_iconst C d_L_law_292 (n := 293) rfl (v := nI 1) (by decide) ?_
  refine zr_iadd C d_L_law_293 (n := 294) rfl ?_
  refine zr_toe (nI_add i 1) ?_
  refine zr_sld C hX hbl d_L_law_294 (n := 295) rfl (vp_in_nI (by omega) (by omega)) ?_
  refine zr_aload_n C d_L_law_295 (n := 296) rfl rfl ?_
  refine zr_iload_n C d_L_law_296 (n := 297) rfl rfl ?_
  refine zr_iconst C d_L_law_297 (n := 298) rfl (v := nI 2) (by decide) ?_
  refine zr_iadd C d_L_law_298 (n := 299) rfl ?_
  refine zr_toe (nI_add i 2) ?_
  refine zr_sld C hX hbl d_L_law_299 (n := 300) rfl (vp_in_nI (by omega) (by omega)) ?_
  refine zr_aload_n C d_L_law_300 (n := 301) rfl rfl ?_
  refine zr_iload_n C d_L_law_301 (n := 302) rfl rfl ?_
  refine zr_iconst C d_L_law_302 (n := 303) rfl (v := nI 3) (by decide) ?_
  refine zr_iadd C d_L_law_303 (n := 304) rfl ?_
  refine zr_toe (nI_add i 3) ?_
  refine zr_sld C hX hbl d_L_law_304 (n := 305) rfl (vp_in_nI (by omega) (by omega)) ?_
  refine zr_aload_n C d_L_law_305 (n := 306) rfl rfl ?_
  refine zr_iload_n C d_L_law_306 (n := 307) rfl rfl ?_
  refine zr_iconst C d_L_law_307 (n := 308) rfl (v := nI 4) (by decide) ?_
  refine zr_iadd C d_L_law_308 (n := 309) rfl ?_
  refine zr_toe (nI_add i 4) ?_
  refine zr_sld C hX hbl d_L_law_309 (n := 310) rfl (vp_in_nI (by omega) (by omega)) ?_
  refine zr_callV4 C k_L_31 d_L_law_310 (nx := 313) (rm := rm_M_method) rfl hM1.1 rfl ⟨Nat.le_of_ble_eq_true rfl, Nat.le_of_ble_eq_true rfl⟩ (Nat.le_of_ble_eq_true rfl) ⟨hKC, hKS⟩ (sp_M_method l hM1 hJ (fun h2 S2 hM2 f2 hJ2 => ?_))
  refine zr_icmp_eq C d_L_law_313 (n := 316) rfl (t := 753) (by decide) (fun _ => ?_) (fun q => absurd rfl q)
  exact kn h2 _ S2 _ _ _ _ _ B1 E1 (f2.2.trans (f1.1.trans hn)) (zc_at_c hS1 f2.1) hM2 hJ2
set_option maxHeartbeats 4000000 in
set_option maxRecDepth 100000 in
theorem law_c4 {p : Program} {l : Launch} {e : Env} {s : State} {m : MethodId} {args : Array Value} {below : List Frame} {meth : Method} {c : Code} {nm : String} {rt : Option FieldType} {D : va_G} {dA : Nat → ClassId} {b base sz : Nat} {Q : State → Prop} {KC KS L i : Nat} {xs : Nat → Int32} (C : zk_C p s m meth c code 8 R_L nm rt D dA base sz) (hX : va_X b L xs s s.heap) (hbl : b < base) (hL : L ≤ 3072) (hi : i + 6 ≤ L) (hKC : KC ≤ room_1.cells) (hKS : KS ≤ room_1.slots) (kn : zl_at p l e s m args below meth c D dA b base Q KC KS 753 i) : zl_at p l e s m args below meth c D dA b base Q KC KS 318 i := by
  intro h V S us uk ut un ua B E hn hS hM hJ
  refine zr_aload_n C d_L_law_318 (n := 319) rfl rfl ?_
  refine zr_aload_n C d_L_law_319 (n := 320) rfl rfl ?_
  refine zr_iload_n C d_L_law_320 (n := 321) rfl rfl ?_
  refine zr_iconst C d_L_law_321 (n := 322) rfl (v := nI 1) (by decide) ?_
  refine zr_iadd C d_L_law_322 (n := 323) rfl ?_
  refine zr_toe (nI_add i 1) ?_
  refine zr_sld C hX hbl d_L_law_323 (n := 324) rfl (vp_in_nI (by omega) (by omega)) ?_
  refine zr_aload_n C d_L_law_324 (n := 325) rfl rfl ?_
  refine zr_iload_n C d_L_law_325 (n := 326) rfl rfl ?_
  refine zr_iconst C d_L_law_326 (n := 327) rfl (v := nI 2) (by decide) ?_
  refine zr_iadd C d_L_law_327 (n := 328) rfl ?_
  refine zr_toe (nI_add i 2) ?_
  refine zr_sld C hX hbl d_L_law_328 (n := 329) rfl (vp_in_nI (by omega) (by omega)) ?_
  refine zr_aload_n C d_L_law_329 (n := 330) rfl rfl ?_
  refine zr_iload_n C d_L_law_330 (n := 331) rfl rfl ?_
  refine zr_iconst C d_L_law_331 (n := 332) rfl (v := nI 3) (by decide) ?_
  refine zr_iadd C d_L_law_332 (n := 333) rfl ?_
  refine zr_toe (nI_add i 3) ?_
  refine zr_sld C hX hbl d_L_law_333 (n := 334) rfl (vp_in_nI (by omega) (by omega)) ?_
  refine zr_aload_n C d_L_law_334 (n := 335) rfl rfl ?_
  refine zr_iload_n C d_L_law_335 (n := 336) rfl rfl ?_
  refine zr_iconst C d_L_law_336 (n := 337) rfl (v := nI 4) (by decide) ?_
  refine zr_iadd C d_L_law_337 (n := 338) rfl ?_
  refine zr_toe (nI_add i 4) ?_
  refine zr_sld C hX hbl d_L_law_338 (n := 339) rfl (vp_in_nI (by omega) (by omega)) ?_
  refine zr_callV4 C k_L_32 d_L_law_339 (nx := 342) (rm := rm_A_cut) rfl hS.1 rfl ⟨Nat.le_of_ble_eq_true rfl, Nat.le_of_ble_eq_true rfl⟩ (Nat.le_of_ble_eq_true rfl) ⟨hKC, hKS⟩ (sp_A_cut l hS (fun h1 B1 E1 hS1 f1 => ?_))
  have hM1 := zm_at_c hM f1
  refine zr_aload_n C d_L_law_342 (n := 343) rfl rfl ?_
  refine zr_aload_n C d_L_law_343 (n := 344) rfl rfl ?_
  refine zr_iload_n C d_L_law_344 (n := 345) rfl rfl ?_
  refine zr_iconst C d_L_law_345 (n := 346) rfl (v := nI 1) (by decide) ?_
  refine zr_iadd C d_L_law_346 (n := 347) rfl ?_
  refine zr_toe (nI_add i 1) ?_
  refine zr_sld C hX hbl d_L_law_347 (n := 348) rfl (vp_in_nI (by omega) (by omega)) ?_
  refine zr_aload_n C d_L_law_348 (n := 349) rfl rfl ?_
  refine zr_iload_n C d_L_law_349 (n := 350) rfl rfl ?_
  refine zr_iconst C d_L_law_350 (n := 351) rfl (v := nI 2) (by decide) ?_
  refine zr_iadd C d_L_law_351 (n := 352) rfl ?_
  refine zr_toe (nI_add i 2) ?_
  refine zr_sld C hX hbl d_L_law_352 (n := 353) rfl (vp_in_nI (by omega) (by omega)) ?_
  refine zr_aload_n C d_L_law_353 (n := 354) rfl rfl ?_
  refine zr_iload_n C d_L_law_354 (n := 355) rfl rfl ?_
  refine zr_iconst C d_L_law_355 (n := 356) rfl (v := nI 3) (by decide) ?_
  refine zr_iadd C d_L_law_356 (n := 357) rfl ?_
  refine zr_toe (nI_add i 3) ?_
  refine zr_sld C hX hbl d_L_law_357 (n := 358) rfl (vp_in_nI (by omega) (by omega)) ?_
  refine zr_aload_n C d_L_law_358 (n := 359) rfl rfl ?_
  refine zr_iload_n C d_L_law_359 (n := 360) rfl rfl ?_
  refine zr_iconst C d_L_law_360 (n := 361) rfl (v := nI 4) (by decide) ?_
  refine zr_iadd C d_L_law_361 (n := 362) rfl ?_
  refine zr_toe (nI_add i 4) ?_
  refine zr_sld C hX hbl d_L_law_362 (n := 363) rfl (vp_in_nI (by omega) (by omega)) ?_
  refine zr_callV4 C k_L_35 d_L_law_363 (nx := 366) (rm := rm_M_cut) rfl hM1.1 rfl ⟨Nat.le_of_ble_eq_true rfl, Nat.le_of_ble_eq_true rfl⟩ (Nat.le_of_ble_eq_true rfl) ⟨hKC, hKS⟩ (sp_M_cut l hM1 hJ (fun h2 S2 hM2 f2 hJ2 => ?_))
  refine zr_icmp_eq C d_L_law_366 (n := 369) rfl (t := 753) (by decide) (fun _ => ?_) (fun q => absurd rfl q)
  exact kn h2 _ S2 _ _ _ _ _ B1 E1 (f2.2.trans (f1.1.trans hn)) (zc_at_c hS1 f2.1) hM2 hJ2
set_option maxHeartbeats 4000000 in
set_option maxRecDepth 100000 in
theorem law_c5 {p : Program} {l : Launch} {e : Env} {s : State} {m : MethodId} {args : Array Value} {below : List Frame} {meth : Method} {c : Code} {nm : String} {rt : Option FieldType} {D : va_G} {dA : Nat → ClassId} {b base sz : Nat} {Q : State → Prop} {KC KS L i : Nat} {xs : Nat → Int32} (C : zk_C p s m meth c code 8 R_L nm rt D dA base sz) (hX : va_X b L xs s s.heap) (hbl : b < base) (hL : L ≤ 3072) (hi : i + 6 ≤ L) (hKC : KC ≤ room_1.cells) (hKS : KS ≤ room_1.slots) (kn : zl_at p l e s m args below meth c D dA b base Q KC KS 753 i) : zl_at p l e s m args below meth c D dA b base Q KC KS 371 i := by
  intro h V S us uk ut un ua B E hn hS hM hJ
  refine zr_aload_n C d_L_law_371 (n := 372) rfl rfl ?_
  refine zr_callV0 C k_L_36 d_L_law_372 (nx := 375) (rm := rm_A_copy) rfl hS.1 rfl ⟨Nat.le_of_ble_eq_true rfl, Nat.le_of_ble_eq_true rfl⟩ (Nat.le_of_ble_eq_true rfl) ⟨hKC, hKS⟩ (sp_A_copy l hS (fun h1 B1 E1 hS1 f1 => ?_))
  have hM1 := zm_at_c hM f1
  refine zr_aload_n C d_L_law_375 (n := 376) rfl rfl ?_
  refine zr_callV0 C k_L_40 d_L_law_376 (nx := 379) (rm := rm_M_copy) rfl hM1.1 rfl ⟨Nat.le_of_ble_eq_true rfl, Nat.le_of_ble_eq_true rfl⟩ (Nat.le_of_ble_eq_true rfl) ⟨hKC, hKS⟩ (sp_M_copy l hM1 hJ (fun h2 S2 hM2 f2 hJ2 => ?_))
  refine zr_icmp_eq C d_L_law_379 (n := 382) rfl (t := 753) (by decide) (fun _ => ?_) (fun q => absurd rfl q)
  exact kn h2 _ S2 _ _ _ _ _ B1 E1 (f2.2.trans (f1.1.trans hn)) (zc_at_c hS1 f2.1) hM2 hJ2
set_option maxHeartbeats 4000000 in
set_option maxRecDepth 100000 in
theorem law_c6 {p : Program} {l : Launch} {e : Env} {s : State} {m : MethodId} {args : Array Value} {below : List Frame} {meth : Method} {c : Code} {nm : String} {rt : Option FieldType} {D : va_G} {dA : Nat → ClassId} {b base sz : Nat} {Q : State → Prop} {KC KS L i : Nat} {xs : Nat → Int32} (C : zk_C p s m meth c code 8 R_L nm rt D dA base sz) (hX : va_X b L xs s s.heap) (hbl : b < base) (hL : L ≤ 3072) (hi : i + 6 ≤ L) (hKC : KC ≤ room_1.cells) (hKS : KS ≤ room_1.slots) (kn : zl_at p l e s m args below meth c D dA b base Q KC KS 753 i) : zl_at p l e s m args below meth c D dA b base Q KC KS 384 i := by
  intro h V S us uk ut un ua B E hn hS hM hJ
  refine zr_aload_n C d_L_law_384 (n := 385) rfl rfl ?_
  refine zr_aload_n C d_L_law_385 (n := 386) rfl rfl ?_
  refine zr_iload_n C d_L_law_386 (n := 387) rfl rfl ?_
  refine zr_iconst C d_L_law_387 (n := 388) rfl (v := nI 1) (by decide) ?_
  refine zr_iadd C d_L_law_388 (n := 389) rfl ?_
  refine zr_toe (nI_add i 1) ?_
  refine zr_sld C hX hbl d_L_law_389 (n := 390) rfl (vp_in_nI (by omega) (by omega)) ?_
  refine zr_aload_n C d_L_law_390 (n := 391) rfl rfl ?_
  refine zr_iload_n C d_L_law_391 (n := 392) rfl rfl ?_
  refine zr_iconst C d_L_law_392 (n := 393) rfl (v := nI 2) (by decide) ?_
  refine zr_iadd C d_L_law_393 (n := 394) rfl ?_
  refine zr_toe (nI_add i 2) ?_
  refine zr_sld C hX hbl d_L_law_394 (n := 395) rfl (vp_in_nI (by omega) (by omega)) ?_
  refine zr_aload_n C d_L_law_395 (n := 396) rfl rfl ?_
  refine zr_iload_n C d_L_law_396 (n := 397) rfl rfl ?_
  refine zr_iconst C d_L_law_397 (n := 398) rfl (v := nI 3) (by decide) ?_
  refine zr_iadd C d_L_law_398 (n := 399) rfl ?_
  refine zr_toe (nI_add i 3) ?_
  refine zr_sld C hX hbl d_L_law_399 (n := 400) rfl (vp_in_nI (by omega) (by omega)) ?_
  refine zr_aload_n C d_L_law_400 (n := 401) rfl rfl ?_
  refine zr_iload_n C d_L_law_401 (n := 402) rfl rfl ?_
  refine zr_iconst C d_L_law_402 (n := 403) rfl (v := nI 4) (by decide) ?_
  refine zr_iadd C d_L_law_403 (n := 404) rfl ?_
  refine zr_toe (nI_add i 4) ?_
  refine zr_sld C hX hbl d_L_law_404 (n := 405) rfl (vp_in_nI (by omega) (by omega)) ?_
  refine zr_callV4 C k_L_41 d_L_law_405 (nx := 408) (rm := rm_A_use) rfl hS.1 rfl ⟨Nat.le_of_ble_eq_true rfl, Nat.le_of_ble_eq_true rfl⟩ (Nat.le_of_ble_eq_true rfl) ⟨hKC, hKS⟩ (sp_A_use l hS hJ.2.2.2.2.1 (fun h1 B1 E1 hS1 f1 => ?_))
  have hM1 := zm_at_c hM f1
  refine zr_aload_n C d_L_law_408 (n := 409) rfl rfl ?_
  refine zr_aload_n C d_L_law_409 (n := 410) rfl rfl ?_
  refine zr_iload_n C d_L_law_410 (n := 411) rfl rfl ?_
  refine zr_iconst C d_L_law_411 (n := 412) rfl (v := nI 1) (by decide) ?_
  refine zr_iadd C d_L_law_412 (n := 413) rfl ?_
  refine zr_toe (nI_add i 1) ?_
  refine zr_sld C hX hbl d_L_law_413 (n := 414) rfl (vp_in_nI (by omega) (by omega)) ?_
  refine zr_aload_n C d_L_law_414 (n := 415) rfl rfl ?_
  refine zr_iload_n C d_L_law_415 (n := 416) rfl rfl ?_
  refine zr_iconst C d_L_law_416 (n := 417) rfl (v := nI 2) (by decide) ?_
  refine zr_iadd C d_L_law_417 (n := 418) rfl ?_
  refine zr_toe (nI_add i 2) ?_
  refine zr_sld C hX hbl d_L_law_418 (n := 419) rfl (vp_in_nI (by omega) (by omega)) ?_
  refine zr_aload_n C d_L_law_419 (n := 420) rfl rfl ?_
  refine zr_iload_n C d_L_law_420 (n := 421) rfl rfl ?_
  refine zr_iconst C d_L_law_421 (n := 422) rfl (v := nI 3) (by decide) ?_
  refine zr_iadd C d_L_law_422 (n := 423) rfl ?_
  refine zr_toe (nI_add i 3) ?_
  refine zr_sld C hX hbl d_L_law_423 (n := 424) rfl (vp_in_nI (by omega) (by omega)) ?_
  refine zr_aload_n C d_L_law_424 (n := 425) rfl rfl ?_
  refine zr_iload_n C d_L_law_425 (n := 426) rfl rfl ?_
  refine zr_iconst C d_L_law_426 (n := 427) rfl (v := nI 4) (by decide) ?_
  refine zr_iadd C d_L_law_427 (n := 428) rfl ?_
  refine zr_toe (nI_add i 4) ?_
  refine zr_sld C hX hbl d_L_law_428 (n := 429) rfl (vp_in_nI (by omega) (by omega)) ?_
  refine zr_callV4 C k_L_44 d_L_law_429 (nx := 432) (rm := rm_M_use) rfl hM1.1 rfl ⟨Nat.le_of_ble_eq_true rfl, Nat.le_of_ble_eq_true rfl⟩ (Nat.le_of_ble_eq_true rfl) ⟨hKC, hKS⟩ (sp_M_use l hM1 hJ (fun h2 S2 hM2 f2 hJ2 => ?_))
  refine zr_icmp_eq C d_L_law_432 (n := 435) rfl (t := 753) (by decide) (fun _ => ?_) (fun q => absurd rfl q)
  exact kn h2 _ S2 _ _ _ _ _ B1 E1 (f2.2.trans (f1.1.trans hn)) (zc_at_c hS1 f2.1) hM2 hJ2
set_option maxHeartbeats 4000000 in
set_option maxRecDepth 100000 in
theorem law_c7 {p : Program} {l : Launch} {e : Env} {s : State} {m : MethodId} {args : Array Value} {below : List Frame} {meth : Method} {c : Code} {nm : String} {rt : Option FieldType} {D : va_G} {dA : Nat → ClassId} {b base sz : Nat} {Q : State → Prop} {KC KS L i : Nat} {xs : Nat → Int32} (C : zk_C p s m meth c code 8 R_L nm rt D dA base sz) (hX : va_X b L xs s s.heap) (hbl : b < base) (hL : L ≤ 3072) (hi : i + 6 ≤ L) (hKC : KC ≤ room_1.cells) (hKS : KS ≤ room_1.slots) (kn : zl_at p l e s m args below meth c D dA b base Q KC KS 753 i) : zl_at p l e s m args below meth c D dA b base Q KC KS 437 i := by
  intro h V S us uk ut un ua B E hn hS hM hJ
  refine zr_aload_n C d_L_law_437 (n := 438) rfl rfl ?_
  refine zr_aload_n C d_L_law_438 (n := 439) rfl rfl ?_
  refine zr_iload_n C d_L_law_439 (n := 440) rfl rfl ?_
  refine zr_iconst C d_L_law_440 (n := 441) rfl (v := nI 1) (by decide) ?_
  refine zr_iadd C d_L_law_441 (n := 442) rfl ?_
  refine zr_toe (nI_add i 1) ?_
  refine zr_sld C hX hbl d_L_law_442 (n := 443) rfl (vp_in_nI (by omega) (by omega)) ?_
  refine zr_aload_n C d_L_law_443 (n := 444) rfl rfl ?_
  refine zr_iload_n C d_L_law_444 (n := 445) rfl rfl ?_
  refine zr_iconst C d_L_law_445 (n := 446) rfl (v := nI 2) (by decide) ?_
  refine zr_iadd C d_L_law_446 (n := 447) rfl ?_
  refine zr_toe (nI_add i 2) ?_
  refine zr_sld C hX hbl d_L_law_447 (n := 448) rfl (vp_in_nI (by omega) (by omega)) ?_
  refine zr_callV2 C k_L_45 d_L_law_448 (nx := 451) (rm := rm_A_compile) rfl hS.1 rfl ⟨Nat.le_of_ble_eq_true rfl, Nat.le_of_ble_eq_true rfl⟩ (Nat.le_of_ble_eq_true rfl) ⟨hKC, hKS⟩ (sp_A_compile l hS (fun v hv => zo_ok_wf (hJ.2.1 v hv)) hJ.2.2.2.1 hJ.2.2.2.2.1 (fun h1 B1 E1 hS1 f1 => ?_))
  have hM1 := zm_at_c hM f1
  refine zr_aload_n C d_L_law_451 (n := 452) rfl rfl ?_
  refine zr_aload_n C d_L_law_452 (n := 453) rfl rfl ?_
  refine zr_iload_n C d_L_law_453 (n := 454) rfl rfl ?_
  refine zr_iconst C d_L_law_454 (n := 455) rfl (v := nI 1) (by decide) ?_
  refine zr_iadd C d_L_law_455 (n := 456) rfl ?_
  refine zr_toe (nI_add i 1) ?_
  refine zr_sld C hX hbl d_L_law_456 (n := 457) rfl (vp_in_nI (by omega) (by omega)) ?_
  refine zr_aload_n C d_L_law_457 (n := 458) rfl rfl ?_
  refine zr_iload_n C d_L_law_458 (n := 459) rfl rfl ?_
  refine zr_iconst C d_L_law_459 (n := 460) rfl (v := nI 2) (by decide) ?_
  refine zr_iadd C d_L_law_460 (n := 461) rfl ?_
  refine zr_toe (nI_add i 2) ?_
  refine zr_sld C hX hbl d_L_law_461 (n := 462) rfl (vp_in_nI (by omega) (by omega)) ?_
  refine zr_callV2 C k_L_48 d_L_law_462 (nx := 465) (rm := rm_M_compile) rfl hM1.1 rfl ⟨Nat.le_of_ble_eq_true rfl, Nat.le_of_ble_eq_true rfl⟩ (Nat.le_of_ble_eq_true rfl) ⟨hKC, hKS⟩ (sp_M_compile l hM1 hJ (fun h2 S2 pv => ?_))
  refine zr_icmp_eq C d_L_law_465 (n := 468) rfl (t := 753) (by decide) (fun _ => ?_) (fun q => absurd rfl q)
  exact kn h2 V S2 us uk ut un ua B1 E1 (pv.2.2.2.trans (f1.1.trans hn)) (zc_at_c hS1 pv.2.2.1) pv.1 (zm_J_c hJ pv.2.1)
set_option maxHeartbeats 4000000 in
set_option maxRecDepth 100000 in
theorem law_c8 {p : Program} {l : Launch} {e : Env} {s : State} {m : MethodId} {args : Array Value} {below : List Frame} {meth : Method} {c : Code} {nm : String} {rt : Option FieldType} {D : va_G} {dA : Nat → ClassId} {b base sz : Nat} {Q : State → Prop} {KC KS L i : Nat} {xs : Nat → Int32} (C : zk_C p s m meth c code 8 R_L nm rt D dA base sz) (hX : va_X b L xs s s.heap) (hbl : b < base) (hL : L ≤ 3072) (hi : i + 6 ≤ L) (hKC : KC ≤ room_1.cells) (hKS : KS ≤ room_1.slots) (kn : zl_at p l e s m args below meth c D dA b base Q KC KS 753 i) : zl_at p l e s m args below meth c D dA b base Q KC KS 470 i := by
  intro h V S us uk ut un ua B E hn hS hM hJ
  refine zr_aload_n C d_L_law_470 (n := 471) rfl rfl ?_
  refine zr_aload_n C d_L_law_471 (n := 472) rfl rfl ?_
  refine zr_iload_n C d_L_law_472 (n := 473) rfl rfl ?_
  refine zr_iconst C d_L_law_473 (n := 474) rfl (v := nI 1) (by decide) ?_
  refine zr_iadd C d_L_law_474 (n := 475) rfl ?_
  refine zr_toe (nI_add i 1) ?_
  refine zr_sld C hX hbl d_L_law_475 (n := 476) rfl (vp_in_nI (by omega) (by omega)) ?_
  refine zr_callV1 C k_L_49 d_L_law_476 (nx := 479) (rm := rm_A_link) rfl hS.1 rfl ⟨Nat.le_of_ble_eq_true rfl, Nat.le_of_ble_eq_true rfl⟩ (Nat.le_of_ble_eq_true rfl) ⟨hKC, hKS⟩ (sp_A_link l hS (fun v hv => zo_ok_wf (hJ.2.1 v hv)) hJ.2.2.2.1 hJ.2.2.2.2.1 (fun h1 B1 E1 hS1 f1 => ?_))
  have hM1 := zm_at_c hM f1
  refine zr_aload_n C d_L_law_479 (n := 480) rfl rfl ?_
  refine zr_aload_n C d_L_law_480 (n := 481) rfl rfl ?_
  refine zr_iload_n C d_L_law_481 (n := 482) rfl rfl ?_
  refine zr_iconst C d_L_law_482 (n := 483) rfl (v := nI 1) (by decide) ?_
  refine zr_iadd C d_L_law_483 (n := 484) rfl ?_
  refine zr_toe (nI_add i 1) ?_
  refine zr_sld C hX hbl d_L_law_484 (n := 485) rfl (vp_in_nI (by omega) (by omega)) ?_
  refine zr_callV1 C k_L_53 d_L_law_485 (nx := 488) (rm := rm_M_link) rfl hM1.1 rfl ⟨Nat.le_of_ble_eq_true rfl, Nat.le_of_ble_eq_true rfl⟩ (Nat.le_of_ble_eq_true rfl) ⟨hKC, hKS⟩ (sp_M_link l hM1 hJ (fun h2 S2 pv => ?_))
  refine zr_icmp_eq C d_L_law_488 (n := 491) rfl (t := 753) (by decide) (fun _ => ?_) (fun q => absurd rfl q)
  exact kn h2 V S2 us uk ut un ua B1 E1 (pv.2.2.2.trans (f1.1.trans hn)) (zc_at_c hS1 pv.2.2.1) pv.1 (zm_J_c hJ pv.2.1)
set_option maxHeartbeats 4000000 in
set_option maxRecDepth 100000 in
theorem law_c9 {p : Program} {l : Launch} {e : Env} {s : State} {m : MethodId} {args : Array Value} {below : List Frame} {meth : Method} {c : Code} {nm : String} {rt : Option FieldType} {D : va_G} {dA : Nat → ClassId} {b base sz : Nat} {Q : State → Prop} {KC KS L i : Nat} {xs : Nat → Int32} (C : zk_C p s m meth c code 8 R_L nm rt D dA base sz) (hX : va_X b L xs s s.heap) (hbl : b < base) (hL : L ≤ 3072) (hi : i + 6 ≤ L) (hKC : KC ≤ room_1.cells) (hKS : KS ≤ room_1.slots) (kn : zl_at p l e s m args below meth c D dA b base Q KC KS 753 i) : zl_at p l e s m args below meth c D dA b base Q KC KS 493 i := by
  intro h V S us uk ut un ua B E hn hS hM hJ
  refine zr_aload_n C d_L_law_493 (n := 494) rfl rfl ?_
  refine zr_aload_n C d_L_law_494 (n := 495) rfl rfl ?_
  refine zr_iload_n C d_L_law_495 (n := 496) rfl rfl ?_
  refine zr_iconst C d_L_law_496 (n := 497) rfl (v := nI 1) (by decide) ?_
  refine zr_iadd C d_L_law_497 (n := 498) rfl ?_
  refine zr_toe (nI_add i 1) ?_
  refine zr_sld C hX hbl d_L_law_498 (n := 499) rfl (vp_in_nI (by omega) (by omega)) ?_
  refine zr_callV1 C k_L_54 d_L_law_499 (nx := 502) (rm := rm_A_recompile) rfl hS.1 rfl ⟨Nat.le_of_ble_eq_true rfl, Nat.le_of_ble_eq_true rfl⟩ (Nat.le_of_ble_eq_true rfl) ⟨hKC, hKS⟩ (sp_A_recompile l hS (fun v hv => zo_ok_wf (hJ.2.1 v hv)) hJ.2.2.2.1 hJ.2.2.2.2.1 (fun h1 B1 E1 hS1 f1 => ?_))
  have hM1 := zm_at_c hM f1
  refine zr_aload_n C d_L_law_502 (n := 503) rfl rfl ?_
  refine zr_aload_n C d_L_law_503 (n := 504) rfl rfl ?_
  refine zr_iload_n C d_L_law_504 (n := 505) rfl rfl ?_
  refine zr_iconst C d_L_law_505 (n := 506) rfl (v := nI 1) (by decide) ?_
  refine zr_iadd C d_L_law_506 (n := 507) rfl ?_
  refine zr_toe (nI_add i 1) ?_
  refine zr_sld C hX hbl d_L_law_507 (n := 508) rfl (vp_in_nI (by omega) (by omega)) ?_
  refine zr_callV1 C k_L_57 d_L_law_508 (nx := 511) (rm := rm_M_recompile) rfl hM1.1 rfl ⟨Nat.le_of_ble_eq_true rfl, Nat.le_of_ble_eq_true rfl⟩ (Nat.le_of_ble_eq_true rfl) ⟨hKC, hKS⟩ (sp_M_recompile l hM1 hJ (fun h2 S2 pv => ?_))
  refine zr_icmp_eq C d_L_law_511 (n := 514) rfl (t := 753) (by decide) (fun _ => ?_) (fun q => absurd rfl q)
  exact kn h2 V S2 us uk ut un ua B1 E1 (pv.2.2.2.trans (f1.1.trans hn)) (zc_at_c hS1 pv.2.2.1) pv.1 (zm_J_c hJ pv.2.1)
set_option maxHeartbeats 4000000 in
set_option maxRecDepth 100000 in
theorem law_c10 {p : Program} {l : Launch} {e : Env} {s : State} {m : MethodId} {args : Array Value} {below : List Frame} {meth : Method} {c : Code} {nm : String} {rt : Option FieldType} {D : va_G} {dA : Nat → ClassId} {b base sz : Nat} {Q : State → Prop} {KC KS L i : Nat} {xs : Nat → Int32} (C : zk_C p s m meth c code 8 R_L nm rt D dA base sz) (hX : va_X b L xs s s.heap) (hbl : b < base) (hL : L ≤ 3072) (hi : i + 6 ≤ L) (hKC : KC ≤ room_1.cells) (hKS : KS ≤ room_1.slots) (kn : zl_at p l e s m args below meth c D dA b base Q KC KS 753 i) : zl_at p l e s m args below meth c D dA b base Q KC KS 516 i := by
  intro h V S us uk ut un ua B E hn hS hM hJ
  refine zr_aload_n C d_L_law_516 (n := 517) rfl rfl ?_
  refine zr_aload_n C d_L_law_517 (n := 518) rfl rfl ?_
  refine zr_iload_n C d_L_law_518 (n := 519) rfl rfl ?_
  refine zr_iconst C d_L_law_519 (n := 520) rfl (v := nI 1) (by decide) ?_
  refine zr_iadd C d_L_law_520 (n := 521) rfl ?_
  refine zr_toe (nI_add i 1) ?_
  refine zr_sld C hX hbl d_L_law_521 (n := 522) rfl (vp_in_nI (by omega) (by omega)) ?_
  refine zr_aload_n C d_L_law_522 (n := 523) rfl rfl ?_
  refine zr_iload_n C d_L_law_523 (n := 524) rfl rfl ?_
  refine zr_iconst C d_L_law_524 (n := 525) rfl (v := nI 2) (by decide) ?_
  refine zr_iadd C d_L_law_525 (n := 526) rfl ?_
  refine zr_toe (nI_add i 2) ?_
  refine zr_sld C hX hbl d_L_law_526 (n := 527) rfl (vp_in_nI (by omega) (by omega)) ?_
  refine zr_callV2 C k_L_58 d_L_law_527 (nx := 530) (rm := rm_A_value) rfl hS.1 rfl ⟨Nat.le_of_ble_eq_true rfl, Nat.le_of_ble_eq_true rfl⟩ (Nat.le_of_ble_eq_true rfl) ⟨hKC, hKS⟩ (sp_A_value l hS (fun v hv => zo_ok_wf (hJ.2.1 v hv)) hJ.2.2.2.1 hJ.2.2.2.2.1 (fun h1 B1 E1 hS1 f1 => ?_))
  have hM1 := zm_at_c hM f1
  refine zr_dstore C d_L_law_530 (n := 532) rfl (by decide) rfl ?_
  refine zr_aload_n C d_L_law_532 (n := 533) rfl rfl ?_
  refine zr_aload_n C d_L_law_533 (n := 534) rfl rfl ?_
  refine zr_iload_n C d_L_law_534 (n := 535) rfl rfl ?_
  refine zr_iconst C d_L_law_535 (n := 536) rfl (v := nI 1) (by decide) ?_
  refine zr_iadd C d_L_law_536 (n := 537) rfl ?_
  refine zr_toe (nI_add i 1) ?_
  refine zr_sld C hX hbl d_L_law_537 (n := 538) rfl (vp_in_nI (by omega) (by omega)) ?_
  refine zr_aload_n C d_L_law_538 (n := 539) rfl rfl ?_
  refine zr_iload_n C d_L_law_539 (n := 540) rfl rfl ?_
  refine zr_iconst C d_L_law_540 (n := 541) rfl (v := nI 2) (by decide) ?_
  refine zr_iadd C d_L_law_541 (n := 542) rfl ?_
  refine zr_toe (nI_add i 2) ?_
  refine zr_sld C hX hbl d_L_law_542 (n := 543) rfl (vp_in_nI (by omega) (by omega)) ?_
  refine zr_callV2 C k_L_62 d_L_law_543 (nx := 546) (rm := rm_M_value) rfl hM1.1 rfl ⟨Nat.le_of_ble_eq_true rfl, Nat.le_of_ble_eq_true rfl⟩ (Nat.le_of_ble_eq_true rfl) ⟨hKC, hKS⟩ (sp_M_value l hM1 hJ (fun h2 S2 pv => ?_))
  refine zr_dstore C d_L_law_546 (n := 548) rfl (by decide) rfl ?_
  refine zr_dload C d_L_law_548 (n := 550) rfl rfl ?_
  refine zr_dload C d_L_law_550 (n := 552) rfl rfl ?_
  refine zr_dcmp C d_L_law_552 (n := 553) rfl ?_
  refine zr_if_eq C d_L_law_553 (n := 556) rfl (t := 574) (by decide) (fun c1 => ?_) (fun c1 => ?_)
  · refine zr_goto C d_L_law_574 (t := 753) (by decide) ?_
    refine zr_less zl_four ?_
    exact kn h2 V S2 us uk ut un ua B1 E1 (pv.2.2.2.trans (f1.1.trans hn)) (zc_at_c hS1 pv.2.2.1) pv.1 (zm_J_c hJ pv.2.1)
  · refine zr_dload C d_L_law_556 (n := 558) rfl rfl ?_
    refine zr_dload C d_L_law_558 (n := 560) rfl rfl ?_
    refine zr_dcmp C d_L_law_560 (n := 561) rfl ?_
    refine zr_if_eq C d_L_law_561 (n := 564) rfl (t := 572) (by decide) (fun c2 => absurd c2 c1) (fun _ => ?_)
    refine zr_dload C d_L_law_564 (n := 566) rfl rfl ?_
    refine zr_dload C d_L_law_566 (n := 568) rfl rfl ?_
    refine zr_dcmp C d_L_law_568 (n := 569) rfl ?_
    refine zr_if_ne C d_L_law_569 (n := 572) rfl (t := 574) (by decide) (fun _ => ?_) (fun c3 => absurd c3 c1)
    refine zr_goto C d_L_law_574 (t := 753) (by decide) ?_
    refine zr_less zl_four ?_
    exact kn h2 V S2 us uk ut un ua B1 E1 (pv.2.2.2.trans (f1.1.trans hn)) (zc_at_c hS1 pv.2.2.1) pv.1 (zm_J_c hJ pv.2.1)
set_option maxHeartbeats 4000000 in
set_option maxRecDepth 100000 in
theorem law_c11 {p : Program} {l : Launch} {e : Env} {s : State} {m : MethodId} {args : Array Value} {below : List Frame} {meth : Method} {c : Code} {nm : String} {rt : Option FieldType} {D : va_G} {dA : Nat → ClassId} {b base sz : Nat} {Q : State → Prop} {KC KS L i : Nat} {xs : Nat → Int32} (C : zk_C p s m meth c code 8 R_L nm rt D dA base sz) (hX : va_X b L xs s s.heap) (hbl : b < base) (hL : L ≤ 3072) (hi : i + 6 ≤ L) (hKC : KC ≤ room_1.cells) (hKS : KS ≤ room_1.slots) (kn : zl_at p l e s m args below meth c D dA b base Q KC KS 753 i) : zl_at p l e s m args below meth c D dA b base Q KC KS 577 i := by
  intro h V S us uk ut un ua B E hn hS hM hJ
  refine zr_aload_n C d_L_law_577 (n := 578) rfl rfl ?_
  refine zr_callV0 C k_L_63 d_L_law_578 (nx := 581) (rm := rm_A_share) rfl hS.1 rfl ⟨Nat.le_of_ble_eq_true rfl, Nat.le_of_ble_eq_true rfl⟩ (Nat.le_of_ble_eq_true rfl) ⟨hKC, hKS⟩ (sp_A_share l hS (fun v hv => zo_ok_wf (hJ.2.1 v hv)) hJ.2.2.2.1 hJ.2.2.2.2.1 (fun h1 B1 E1 hS1 f1 => ?_))
  have hM1 := zm_at_c hM f1
  refine zr_dstore C d_L_law_581 (n := 583) rfl (by decide) rfl ?_
  refine zr_aload_n C d_L_law_583 (n := 584) rfl rfl ?_
  refine zr_callV0 C k_L_67 d_L_law_584 (nx := 587) (rm := rm_M_share) rfl hM1.1 rfl ⟨Nat.le_of_ble_eq_true rfl, Nat.le_of_ble_eq_true rfl⟩ (Nat.le_of_ble_eq_true rfl) ⟨hKC, hKS⟩ (sp_M_share l hM1 hJ (fun h2 S2 pv => ?_))
  refine zr_dstore C d_L_law_587 (n := 589) rfl (by decide) rfl ?_
  refine zr_dload C d_L_law_589 (n := 591) rfl rfl ?_
  refine zr_dload C d_L_law_591 (n := 593) rfl rfl ?_
  refine zr_dcmp C d_L_law_593 (n := 594) rfl ?_
  refine zr_if_eq C d_L_law_594 (n := 597) rfl (t := 615) (by decide) (fun c1 => ?_) (fun c1 => ?_)
  · refine zr_goto C d_L_law_615 (t := 753) (by decide) ?_
    refine zr_less zl_four ?_
    exact kn h2 V S2 us uk ut un ua B1 E1 (pv.2.2.2.trans (f1.1.trans hn)) (zc_at_c hS1 pv.2.2.1) pv.1 (zm_J_c hJ pv.2.1)
  · refine zr_dload C d_L_law_597 (n := 599) rfl rfl ?_
    refine zr_dload C d_L_law_599 (n := 601) rfl rfl ?_
    refine zr_dcmp C d_L_law_601 (n := 602) rfl ?_
    refine zr_if_eq C d_L_law_602 (n := 605) rfl (t := 613) (by decide) (fun c2 => absurd c2 c1) (fun _ => ?_)
    refine zr_dload C d_L_law_605 (n := 607) rfl rfl ?_
    refine zr_dload C d_L_law_607 (n := 609) rfl rfl ?_
    refine zr_dcmp C d_L_law_609 (n := 610) rfl ?_
    refine zr_if_ne C d_L_law_610 (n := 613) rfl (t := 615) (by decide) (fun _ => ?_) (fun c3 => absurd c3 c1)
    refine zr_goto C d_L_law_615 (t := 753) (by decide) ?_
    refine zr_less zl_four ?_
    exact kn h2 V S2 us uk ut un ua B1 E1 (pv.2.2.2.trans (f1.1.trans hn)) (zc_at_c hS1 pv.2.2.1) pv.1 (zm_J_c hJ pv.2.1)
set_option maxHeartbeats 4000000 in
set_option maxRecDepth 100000 in
theorem law_c12 {p : Program} {l : Launch} {e : Env} {s : State} {m : MethodId} {args : Array Value} {below : List Frame} {meth : Method} {c : Code} {nm : String} {rt : Option FieldType} {D : va_G} {dA : Nat → ClassId} {b base sz : Nat} {Q : State → Prop} {KC KS L i : Nat} {xs : Nat → Int32} (C : zk_C p s m meth c code 8 R_L nm rt D dA base sz) (hX : va_X b L xs s s.heap) (hbl : b < base) (hL : L ≤ 3072) (hi : i + 6 ≤ L) (hKC : KC ≤ room_1.cells) (hKS : KS ≤ room_1.slots) (kn : zl_at p l e s m args below meth c D dA b base Q KC KS 753 i) : zl_at p l e s m args below meth c D dA b base Q KC KS 618 i := by
  intro h V S us uk ut un ua B E hn hS hM hJ
  refine zr_aload_n C d_L_law_618 (n := 619) rfl rfl ?_
  refine zr_callV0 C k_L_68 d_L_law_619 (nx := 622) (rm := rm_A_breaking) rfl hS.1 rfl ⟨Nat.le_of_ble_eq_true rfl, Nat.le_of_ble_eq_true rfl⟩ (Nat.le_of_ble_eq_true rfl) ⟨hKC, hKS⟩ (sp_A_breaking l hS (fun v hv => zo_ok_wf (hJ.2.1 v hv)) hJ.2.2.2.1 hJ.2.2.2.2.1 (fun h1 B1 E1 hS1 f1 => ?_))
  have hM1 := zm_at_c hM f1
  refine zr_aload_n C d_L_law_622 (n := 623) rfl rfl ?_
  refine zr_callV0 C k_L_71 d_L_law_623 (nx := 626) (rm := rm_M_breaking) rfl hM1.1 rfl ⟨Nat.le_of_ble_eq_true rfl, Nat.le_of_ble_eq_true rfl⟩ (Nat.le_of_ble_eq_true rfl) ⟨hKC, hKS⟩ (sp_M_breaking l hM1 hJ (fun h2 S2 pv => ?_))
  refine zr_icmp_eq C d_L_law_626 (n := 629) rfl (t := 753) (by decide) (fun _ => ?_) (fun q => absurd rfl q)
  exact kn h2 V S2 us uk ut un ua B1 E1 (pv.2.2.2.trans (f1.1.trans hn)) (zc_at_c hS1 pv.2.2.1) pv.1 (zm_J_c hJ pv.2.1)
set_option maxHeartbeats 4000000 in
set_option maxRecDepth 100000 in
theorem law_c13 {p : Program} {l : Launch} {e : Env} {s : State} {m : MethodId} {args : Array Value} {below : List Frame} {meth : Method} {c : Code} {nm : String} {rt : Option FieldType} {D : va_G} {dA : Nat → ClassId} {b base sz : Nat} {Q : State → Prop} {KC KS L i : Nat} {xs : Nat → Int32} (C : zk_C p s m meth c code 8 R_L nm rt D dA base sz) (hX : va_X b L xs s s.heap) (hbl : b < base) (hL : L ≤ 3072) (hi : i + 6 ≤ L) (hKC : KC ≤ room_1.cells) (hKS : KS ≤ room_1.slots) (kn : zl_at p l e s m args below meth c D dA b base Q KC KS 753 i) : zl_at p l e s m args below meth c D dA b base Q KC KS 631 i := by
  intro h V S us uk ut un ua B E hn hS hM hJ
  refine zr_aload_n C d_L_law_631 (n := 632) rfl rfl ?_
  refine zr_aload_n C d_L_law_632 (n := 633) rfl rfl ?_
  refine zr_iload_n C d_L_law_633 (n := 634) rfl rfl ?_
  refine zr_iconst C d_L_law_634 (n := 635) rfl (v := nI 1) (by decide) ?_
  refine zr_iadd C d_L_law_635 (n := 636) rfl ?_
  refine zr_toe (nI_add i 1) ?_
  refine zr_sld C hX hbl d_L_law_636 (n := 637) rfl (vp_in_nI (by omega) (by omega)) ?_
  refine zr_callV1 C k_L_72 d_L_law_637 (nx := 640) (rm := rm_A_broken) rfl hS.1 rfl ⟨Nat.le_of_ble_eq_true rfl, Nat.le_of_ble_eq_true rfl⟩ (Nat.le_of_ble_eq_true rfl) ⟨hKC, hKS⟩ (sp_A_broken l hS (fun v hv => zo_ok_wf (hJ.2.1 v hv)) hJ.2.2.2.1 hJ.2.2.2.2.1 (fun h1 B1 E1 hS1 f1 => ?_))
  have hM1 := zm_at_c hM f1
  refine zr_aload_n C d_L_law_640 (n := 641) rfl rfl ?_
  refine zr_aload_n C d_L_law_641 (n := 642) rfl rfl ?_
  refine zr_iload_n C d_L_law_642 (n := 643) rfl rfl ?_
  refine zr_iconst C d_L_law_643 (n := 644) rfl (v := nI 1) (by decide) ?_
  refine zr_iadd C d_L_law_644 (n := 645) rfl ?_
  refine zr_toe (nI_add i 1) ?_
  refine zr_sld C hX hbl d_L_law_645 (n := 646) rfl (vp_in_nI (by omega) (by omega)) ?_
  refine zr_callV1 C k_L_75 d_L_law_646 (nx := 649) (rm := rm_M_broken) rfl hM1.1 rfl ⟨Nat.le_of_ble_eq_true rfl, Nat.le_of_ble_eq_true rfl⟩ (Nat.le_of_ble_eq_true rfl) ⟨hKC, hKS⟩ (sp_M_broken l hM1 hJ (fun h2 S2 pv => ?_))
  refine zr_icmp_eq C d_L_law_649 (n := 652) rfl (t := 753) (by decide) (fun _ => ?_) (fun q => absurd rfl q)
  exact kn h2 V S2 us uk ut un ua B1 E1 (pv.2.2.2.trans (f1.1.trans hn)) (zc_at_c hS1 pv.2.2.1) pv.1 (zm_J_c hJ pv.2.1)
set_option maxHeartbeats 4000000 in
set_option maxRecDepth 100000 in
theorem law_c14 {p : Program} {l : Launch} {e : Env} {s : State} {m : MethodId} {args : Array Value} {below : List Frame} {meth : Method} {c : Code} {nm : String} {rt : Option FieldType} {D : va_G} {dA : Nat → ClassId} {b base sz : Nat} {Q : State → Prop} {KC KS L i : Nat} {xs : Nat → Int32} (C : zk_C p s m meth c code 8 R_L nm rt D dA base sz) (hX : va_X b L xs s s.heap) (hbl : b < base) (hL : L ≤ 3072) (hi : i + 6 ≤ L) (hKC : KC ≤ room_1.cells) (hKS : KS ≤ room_1.slots) (kn : zl_at p l e s m args below meth c D dA b base Q KC KS 753 i) : zl_at p l e s m args below meth c D dA b base Q KC KS 654 i := by
  intro h V S us uk ut un ua B E hn hS hM hJ
  refine zr_aload_n C d_L_law_654 (n := 655) rfl rfl ?_
  refine zr_aload_n C d_L_law_655 (n := 656) rfl rfl ?_
  refine zr_iload_n C d_L_law_656 (n := 657) rfl rfl ?_
  refine zr_iconst C d_L_law_657 (n := 658) rfl (v := nI 1) (by decide) ?_
  refine zr_iadd C d_L_law_658 (n := 659) rfl ?_
  refine zr_toe (nI_add i 1) ?_
  refine zr_sld C hX hbl d_L_law_659 (n := 660) rfl (vp_in_nI (by omega) (by omega)) ?_
  refine zr_callV1 C k_L_76 d_L_law_660 (nx := 663) (rm := rm_A_differ) rfl hS.1 rfl ⟨Nat.le_of_ble_eq_true rfl, Nat.le_of_ble_eq_true rfl⟩ (Nat.le_of_ble_eq_true rfl) ⟨hKC, hKS⟩ (sp_A_differ l hS (fun h1 B1 E1 hS1 f1 => ?_))
  have hM1 := zm_at_c hM f1
  refine zr_aload_n C d_L_law_663 (n := 664) rfl rfl ?_
  refine zr_aload_n C d_L_law_664 (n := 665) rfl rfl ?_
  refine zr_iload_n C d_L_law_665 (n := 666) rfl rfl ?_
  refine zr_iconst C d_L_law_666 (n := 667) rfl (v := nI 1) (by decide) ?_
  refine zr_iadd C d_L_law_667 (n := 668) rfl ?_
  refine zr_toe (nI_add i 1) ?_
  refine zr_sld C hX hbl d_L_law_668 (n := 669) rfl (vp_in_nI (by omega) (by omega)) ?_
  refine zr_callV1 C k_L_79 d_L_law_669 (nx := 672) (rm := rm_M_differ) rfl hM1.1 rfl ⟨Nat.le_of_ble_eq_true rfl, Nat.le_of_ble_eq_true rfl⟩ (Nat.le_of_ble_eq_true rfl) ⟨hKC, hKS⟩ (sp_M_differ l hM1 hJ (fun h2 S2 pv => ?_))
  refine zr_icmp_eq C d_L_law_672 (n := 675) rfl (t := 753) (by decide) (fun _ => ?_) (fun q => absurd rfl q)
  exact kn h2 V S2 us uk ut un ua B1 E1 (pv.2.2.2.trans (f1.1.trans hn)) (zc_at_c hS1 pv.2.2.1) pv.1 (zm_J_c hJ pv.2.1)
set_option maxHeartbeats 4000000 in
set_option maxRecDepth 100000 in
theorem law_c15 {p : Program} {l : Launch} {e : Env} {s : State} {m : MethodId} {args : Array Value} {below : List Frame} {meth : Method} {c : Code} {nm : String} {rt : Option FieldType} {D : va_G} {dA : Nat → ClassId} {b base sz : Nat} {Q : State → Prop} {KC KS L i : Nat} {xs : Nat → Int32} (C : zk_C p s m meth c code 8 R_L nm rt D dA base sz) (hX : va_X b L xs s s.heap) (hbl : b < base) (hL : L ≤ 3072) (hi : i + 6 ≤ L) (hKC : KC ≤ room_1.cells) (hKS : KS ≤ room_1.slots) (kn : zl_at p l e s m args below meth c D dA b base Q KC KS 753 i) : zl_at p l e s m args below meth c D dA b base Q KC KS 677 i := by
  intro h V S us uk ut un ua B E hn hS hM hJ
  refine zr_aload_n C d_L_law_677 (n := 678) rfl rfl ?_
  refine zr_aload_n C d_L_law_678 (n := 679) rfl rfl ?_
  refine zr_iload_n C d_L_law_679 (n := 680) rfl rfl ?_
  refine zr_iconst C d_L_law_680 (n := 681) rfl (v := nI 1) (by decide) ?_
  refine zr_iadd C d_L_law_681 (n := 682) rfl ?_
  refine zr_toe (nI_add i 1) ?_
  refine zr_sld C hX hbl d_L_law_682 (n := 683) rfl (vp_in_nI (by omega) (by omega)) ?_
  refine zr_aload_n C d_L_law_683 (n := 684) rfl rfl ?_
  refine zr_iload_n C d_L_law_684 (n := 685) rfl rfl ?_
  refine zr_iconst C d_L_law_685 (n := 686) rfl (v := nI 2) (by decide) ?_
  refine zr_iadd C d_L_law_686 (n := 687) rfl ?_
  refine zr_toe (nI_add i 2) ?_
  refine zr_sld C hX hbl d_L_law_687 (n := 688) rfl (vp_in_nI (by omega) (by omega)) ?_
  refine zr_aload_n C d_L_law_688 (n := 689) rfl rfl ?_
  refine zr_iload_n C d_L_law_689 (n := 690) rfl rfl ?_
  refine zr_iconst C d_L_law_690 (n := 691) rfl (v := nI 3) (by decide) ?_
  refine zr_iadd C d_L_law_691 (n := 692) rfl ?_
  refine zr_toe (nI_add i 3) ?_
  refine zr_sld C hX hbl d_L_law_692 (n := 693) rfl (vp_in_nI (by omega) (by omega)) ?_
  refine zr_callV3 C k_L_80 d_L_law_693 (nx := 696) (rm := rm_A_under) rfl hS.1 rfl ⟨Nat.le_of_ble_eq_true rfl, Nat.le_of_ble_eq_true rfl⟩ (Nat.le_of_ble_eq_true rfl) ⟨hKC, hKS⟩ (sp_A_under l hS (fun h1 B1 E1 hS1 f1 => ?_))
  have hM1 := zm_at_c hM f1
  refine zr_aload_n C d_L_law_696 (n := 697) rfl rfl ?_
  refine zr_aload_n C d_L_law_697 (n := 698) rfl rfl ?_
  refine zr_iload_n C d_L_law_698 (n := 699) rfl rfl ?_
  refine zr_iconst C d_L_law_699 (n := 700) rfl (v := nI 1) (by decide) ?_
  refine zr_iadd C d_L_law_700 (n := 701) rfl ?_
  refine zr_toe (nI_add i 1) ?_
  refine zr_sld C hX hbl d_L_law_701 (n := 702) rfl (vp_in_nI (by omega) (by omega)) ?_
  refine zr_aload_n C d_L_law_702 (n := 703) rfl rfl ?_
  refine zr_iload_n C d_L_law_703 (n := 704) rfl rfl ?_
  refine zr_iconst C d_L_law_704 (n := 705) rfl (v := nI 2) (by decide) ?_
  refine zr_iadd C d_L_law_705 (n := 706) rfl ?_
  refine zr_toe (nI_add i 2) ?_
  refine zr_sld C hX hbl d_L_law_706 (n := 707) rfl (vp_in_nI (by omega) (by omega)) ?_
  refine zr_aload_n C d_L_law_707 (n := 708) rfl rfl ?_
  refine zr_iload_n C d_L_law_708 (n := 709) rfl rfl ?_
  refine zr_iconst C d_L_law_709 (n := 710) rfl (v := nI 3) (by decide) ?_
  refine zr_iadd C d_L_law_710 (n := 711) rfl ?_
  refine zr_toe (nI_add i 3) ?_
  refine zr_sld C hX hbl d_L_law_711 (n := 712) rfl (vp_in_nI (by omega) (by omega)) ?_
  refine zr_callV3 C k_L_84 d_L_law_712 (nx := 715) (rm := rm_M_under) rfl hM1.1 rfl ⟨Nat.le_of_ble_eq_true rfl, Nat.le_of_ble_eq_true rfl⟩ (Nat.le_of_ble_eq_true rfl) ⟨hKC, hKS⟩ (sp_M_under l hM1 hJ (fun h2 S2 pv => ?_))
  refine zr_icmp_eq C d_L_law_715 (n := 718) rfl (t := 753) (by decide) (fun _ => ?_) (fun q => absurd rfl q)
  exact kn h2 V S2 us uk ut un ua B1 E1 (pv.2.2.2.trans (f1.1.trans hn)) (zc_at_c hS1 pv.2.2.1) pv.1 (zm_J_c hJ pv.2.1)
set_option maxHeartbeats 4000000 in
set_option maxRecDepth 100000 in
theorem law_c16 {p : Program} {l : Launch} {e : Env} {s : State} {m : MethodId} {args : Array Value} {below : List Frame} {meth : Method} {c : Code} {nm : String} {rt : Option FieldType} {D : va_G} {dA : Nat → ClassId} {b base sz : Nat} {Q : State → Prop} {KC KS L i : Nat} {xs : Nat → Int32} (C : zk_C p s m meth c code 8 R_L nm rt D dA base sz) (hX : va_X b L xs s s.heap) (hbl : b < base) (hL : L ≤ 3072) (hi : i + 6 ≤ L) (hKC : KC ≤ room_1.cells) (hKS : KS ≤ room_1.slots) (kn : zl_at p l e s m args below meth c D dA b base Q KC KS 753 i) : zl_at p l e s m args below meth c D dA b base Q KC KS 720 i := by
  intro h V S us uk ut un ua B E hn hS hM hJ
  refine zr_aload_n C d_L_law_720 (n := 721) rfl rfl ?_
  refine zr_aload_n C d_L_law_721 (n := 722) rfl rfl ?_
  refine zr_iload_n C d_L_law_722 (n := 723) rfl rfl ?_
  refine zr_iconst C d_L_law_723 (n := 724) rfl (v := nI 1) (by decide) ?_
  refine zr_iadd C d_L_law_724 (n := 725) rfl ?_
  refine zr_toe (nI_add i 1) ?_
  refine zr_sld C hX hbl d_L_law_725 (n := 726) rfl (vp_in_nI (by omega) (by omega)) ?_
  refine zr_aload_n C d_L_law_726 (n := 727) rfl rfl ?_
  refine zr_iload_n C d_L_law_727 (n := 728) rfl rfl ?_
  refine zr_iconst C d_L_law_728 (n := 729) rfl (v := nI 2) (by decide) ?_
  refine zr_iadd C d_L_law_729 (n := 730) rfl ?_
  refine zr_toe (nI_add i 2) ?_
  refine zr_sld C hX hbl d_L_law_730 (n := 731) rfl (vp_in_nI (by omega) (by omega)) ?_
  refine zr_callV2 C k_L_85 d_L_law_731 (nx := 734) (rm := rm_A_count) rfl hS.1 rfl ⟨Nat.le_of_ble_eq_true rfl, Nat.le_of_ble_eq_true rfl⟩ (Nat.le_of_ble_eq_true rfl) ⟨hKC, hKS⟩ (sp_A_count l hS (fun h1 B1 E1 hS1 f1 => ?_))
  have hM1 := zm_at_c hM f1
  refine zr_aload_n C d_L_law_734 (n := 735) rfl rfl ?_
  refine zr_aload_n C d_L_law_735 (n := 736) rfl rfl ?_
  refine zr_iload_n C d_L_law_736 (n := 737) rfl rfl ?_
  refine zr_iconst C d_L_law_737 (n := 738) rfl (v := nI 1) (by decide) ?_
  refine zr_iadd C d_L_law_738 (n := 739) rfl ?_
  refine zr_toe (nI_add i 1) ?_
  refine zr_sld C hX hbl d_L_law_739 (n := 740) rfl (vp_in_nI (by omega) (by omega)) ?_
  refine zr_aload_n C d_L_law_740 (n := 741) rfl rfl ?_
  refine zr_iload_n C d_L_law_741 (n := 742) rfl rfl ?_
  refine zr_iconst C d_L_law_742 (n := 743) rfl (v := nI 2) (by decide) ?_
  refine zr_iadd C d_L_law_743 (n := 744) rfl ?_
  refine zr_toe (nI_add i 2) ?_
  refine zr_sld C hX hbl d_L_law_744 (n := 745) rfl (vp_in_nI (by omega) (by omega)) ?_
  refine zr_callV2 C k_L_88 d_L_law_745 (nx := 748) (rm := rm_M_count) rfl hM1.1 rfl ⟨Nat.le_of_ble_eq_true rfl, Nat.le_of_ble_eq_true rfl⟩ (Nat.le_of_ble_eq_true rfl) ⟨hKC, hKS⟩ (sp_M_count l hM1 hJ (fun h2 S2 pv => ?_))
  refine zr_icmp_eq C d_L_law_748 (n := 751) rfl (t := 753) (by decide) (fun _ => ?_) (fun q => absurd rfl q)
  exact kn h2 V S2 us uk ut un ua B1 E1 (pv.2.2.2.trans (f1.1.trans hn)) (zc_at_c hS1 pv.2.2.1) pv.1 (zm_J_c hJ pv.2.1)
