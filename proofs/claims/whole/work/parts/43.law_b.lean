set_option maxHeartbeats 4000000 in
set_option maxRecDepth 100000 in
theorem law_loop {p : Program} {l : Launch} {e : Env} {s : State} {m : MethodId} {args : Array Value} {below : List Frame} {meth : Method} {c : Code} {nm : String} {rt : Option FieldType} {D : va_G} {dA : Nat → ClassId} {b base sz : Nat} {Q : State → Prop} {KC KS L : Nat} {xs : Nat → Int32} (C : zk_C p s m meth c code 8 R_L nm rt D dA base sz) (hX : va_X b L xs s s.heap) (hbl : b < base) (hL : L ≤ 3072) (hKC : KC ≤ room_1.cells) (hKS : KS ≤ room_1.slots) (kx : ∀ i, zl_at p l e s m args below meth c D dA b base Q KC KS 759 i) : ∀ (n i : Nat), i ≤ L → L + 1 ≤ i + n → zl_at p l e s m args below meth c D dA b base Q KC KS 18 i := by
  intro n
  induction n with
  | zero =>
    intro i h1 h2
    exact absurd h2 (by omega)
  | succ n ih =>
    intro i hiL hn0 h V S us uk ut un ua B E hn hS hM hJ
    refine zr_iload_n C d_L_law_18 (n := 19) rfl rfl ?_
    refine zr_aload_n C d_L_law_19 (n := 20) rfl rfl ?_
    refine zr_slen C hX hbl d_L_law_20 (n := 21) rfl ?_
    refine zr_bipush C d_L_law_21 (n := 23) rfl (v := nI 6) (by decide) ?_
    refine zr_isub C d_L_law_23 (n := 24) rfl ?_
    refine zr_icmp_gt C d_L_law_24 (n := 27) rfl (t := 759) (by decide) (fun c1 => ?_) (fun c1 => ?_)
    · exact kx i h V S us uk ut un ua B E hn hS hM hJ
    · have hi : i + 6 ≤ L := zl_six hL hiL c1
      have kn : zl_at p l e s m args below meth c D dA b base Q KC KS 753 i := by
        intro h V S us uk ut un ua B E hn hS hM hJ
        refine zr_iinc C d_L_law_753 (n := 756) rfl rfl (w := nI 6) (by decide) (nI_add i 6) (by decide) rfl ?_
        refine zr_goto C d_L_law_756 (t := 18) (by decide) ?_
        exact ih (i + 6) hi (by omega) h V S us uk ut un ua B E hn hS hM hJ
      refine zr_aload_n C d_L_law_27 (n := 28) rfl rfl ?_
      refine zr_iload_n C d_L_law_28 (n := 29) rfl rfl ?_
      refine zr_sld C hX hbl d_L_law_29 (n := 30) rfl (vp_in_nI (by omega) (by omega)) ?_
      refine zr_bipush C d_L_law_30 (n := 32) rfl (v := nI 31) (by decide) ?_
      refine zr_iand C d_L_law_32 (n := 33) rfl ?_
      obtain ⟨k, hk, ek⟩ := zl_31 (xs (nI i).toNatClampNeg)
      refine zr_toe ek ?_
      have hsw : k = 0 ∨ k = 1 ∨ k = 2 ∨ k = 3 ∨ k = 4 ∨ k = 5 ∨ k = 6 ∨ k = 7 ∨ k = 8 ∨ k = 9 ∨ k = 10 ∨ k = 11 ∨ k = 12 ∨ k = 13 ∨ k = 14 ∨ k = 15 ∨ k = 16 ∨ 17 ≤ k := by omega
      rcases hsw with rfl | rfl | rfl | rfl | rfl | rfl | rfl | rfl | rfl | rfl | rfl | rfl | rfl | rfl | rfl | rfl | rfl | h17
      · refine zr_tableIn C d_L_law_33 (by decide) (by decide) (off := 83) (by decide) (t := 116) (by decide) ?_
        exact law_c0 C hX hbl hL hi hKC hKS kn h V S us uk ut un ua B E hn hS hM hJ
      · refine zr_tableIn C d_L_law_33 (by decide) (by decide) (off := 146) (by decide) (t := 179) (by decide) ?_
        exact law_c1 C hX hbl hL hi hKC hKS kn h V S us uk ut un ua B E hn hS hM hJ
      · refine zr_tableIn C d_L_law_33 (by decide) (by decide) (off := 179) (by decide) (t := 212) (by decide) ?_
        exact law_c2 C hX hbl hL hi hKC hKS kn h V S us uk ut un ua B E hn hS hM hJ
      · refine zr_tableIn C d_L_law_33 (by decide) (by decide) (off := 232) (by decide) (t := 265) (by decide) ?_
        exact law_c3 C hX hbl hL hi hKC hKS kn h V S us uk ut un ua B E hn hS hM hJ
      · refine zr_tableIn C d_L_law_33 (by decide) (by decide) (off := 285) (by decide) (t := 318) (by decide) ?_
        exact law_c4 C hX hbl hL hi hKC hKS kn h V S us uk ut un ua B E hn hS hM hJ
      · refine zr_tableIn C d_L_law_33 (by decide) (by decide) (off := 338) (by decide) (t := 371) (by decide) ?_
        exact law_c5 C hX hbl hL hi hKC hKS kn h V S us uk ut un ua B E hn hS hM hJ
      · refine zr_tableIn C d_L_law_33 (by decide) (by decide) (off := 351) (by decide) (t := 384) (by decide) ?_
        exact law_c6 C hX hbl hL hi hKC hKS kn h V S us uk ut un ua B E hn hS hM hJ
      · refine zr_tableIn C d_L_law_33 (by decide) (by decide) (off := 404) (by decide) (t := 437) (by decide) ?_
        exact law_c7 C hX hbl hL hi hKC hKS kn h V S us uk ut un ua B E hn hS hM hJ
      · refine zr_tableIn C d_L_law_33 (by decide) (by decide) (off := 437) (by decide) (t := 470) (by decide) ?_
        exact law_c8 C hX hbl hL hi hKC hKS kn h V S us uk ut un ua B E hn hS hM hJ
      · refine zr_tableIn C d_L_law_33 (by decide) (by decide) (off := 460) (by decide) (t := 493) (by decide) ?_
        exact law_c9 C hX hbl hL hi hKC hKS kn h V S us uk ut un ua B E hn hS hM hJ
      · refine zr_tableIn C d_L_law_33 (by decide) (by decide) (off := 483) (by decide) (t := 516) (by decide) ?_
        exact law_c10 C hX hbl hL hi hKC hKS kn h V S us uk ut un ua B E hn hS hM hJ
      · refine zr_tableIn C d_L_law_33 (by decide) (by decide) (off := 544) (by decide) (t := 577) (by decide) ?_
        exact law_c11 C hX hbl hL hi hKC hKS kn h V S us uk ut un ua B E hn hS hM hJ
      · refine zr_tableIn C d_L_law_33 (by decide) (by decide) (off := 585) (by decide) (t := 618) (by decide) ?_
        exact law_c12 C hX hbl hL hi hKC hKS kn h V S us uk ut un ua B E hn hS hM hJ
      · refine zr_tableIn C d_L_law_33 (by decide) (by decide) (off := 598) (by decide) (t := 631) (by decide) ?_
        exact law_c13 C hX hbl hL hi hKC hKS kn h V S us uk ut un ua B E hn hS hM hJ
      · refine zr_tableIn C d_L_law_33 (by decide) (by decide) (off := 621) (by decide) (t := 654) (by decide) ?_
        exact law_c14 C hX hbl hL hi hKC hKS kn h V S us uk ut un ua B E hn hS hM hJ
      · refine zr_tableIn C d_L_law_33 (by decide) (by decide) (off := 644) (by decide) (t := 677) (by decide) ?_
        exact law_c15 C hX hbl hL hi hKC hKS kn h V S us uk ut un ua B E hn hS hM hJ
      · refine zr_tableIn C d_L_law_33 (by decide) (by decide) (off := 687) (by decide) (t := 720) (by decide) ?_
        exact law_c16 C hX hbl hL hi hKC hKS kn h V S us uk ut un ua B E hn hS hM hJ
      · refine zr_tableOut C d_L_law_33 (Or.inr (zl_17 k hk h17)) (t := 753) (by decide) ?_
        exact kn h V S us uk ut un ua B E hn hS hM hJ
