section
-- ===== PART A: goes FIRST, ahead of the names: the tables' words, and 'selects' of the private methods out of them =====
/-- a private method of a class that the tables say can be made, by its rows of tables_1 -/
def lw_okq (q : MethodName × Nat) : Prop := (q.1.cls ≠ "java/lang/invoke/MethodHandle" ∧ q.1.cls ≠ "java/lang/invoke/VarHandle") ∧ Cond.instantiable q.1.cls q.2 ∈ tables_1 ∧ Cond.privateMethod q.1 ∈ tables_1 ∧ Cond.instanceMethod q.1 ∈ tables_1
theorem lw_p0 : lw_okq (⟨"ApiCompare", "offerOf", "(I)LApiCompare$Offer;"⟩, 6) := ⟨⟨by decide +kernel, by decide +kernel⟩, List.mem_of_getElem? (i := 8) (by decide +kernel), List.mem_of_getElem? (i := 145) (by decide +kernel), List.mem_of_getElem? (i := 146) (by decide +kernel)⟩
theorem lw_p1 : lw_okq (⟨"ApiCompare$Offer", "hasFlag", "(II)Z"⟩, 8) := ⟨⟨by decide +kernel, by decide +kernel⟩, List.mem_of_getElem? (i := 16) (by decide +kernel), List.mem_of_getElem? (i := 161) (by decide +kernel), List.mem_of_getElem? (i := 162) (by decide +kernel)⟩
theorem lw_p2 : lw_okq (⟨"ApiCompare", "isTypeThere", "(II)Z"⟩, 6) := ⟨⟨by decide +kernel, by decide +kernel⟩, List.mem_of_getElem? (i := 8) (by decide +kernel), List.mem_of_getElem? (i := 182) (by decide +kernel), List.mem_of_getElem? (i := 183) (by decide +kernel)⟩
theorem lw_p3 : lw_okq (⟨"ApiCompare$Binding", "bindField", "(LApiCompare$Use;LApiCompare$Offer;)I"⟩, 9) := ⟨⟨by decide +kernel, by decide +kernel⟩, List.mem_of_getElem? (i := 81) (by decide +kernel), List.mem_of_getElem? (i := 261) (by decide +kernel), List.mem_of_getElem? (i := 262) (by decide +kernel)⟩
theorem lw_p4 : lw_okq (⟨"ApiCompare$Offer", "findFieldFrom", "(IIII)I"⟩, 8) := ⟨⟨by decide +kernel, by decide +kernel⟩, List.mem_of_getElem? (i := 16) (by decide +kernel), List.mem_of_getElem? (i := 269) (by decide +kernel), List.mem_of_getElem? (i := 270) (by decide +kernel)⟩
theorem lw_p5 : lw_okq (⟨"ApiCompare$Binding", "bindCall", "(LApiCompare$Use;LApiCompare$Offer;)I"⟩, 9) := ⟨⟨by decide +kernel, by decide +kernel⟩, List.mem_of_getElem? (i := 81) (by decide +kernel), List.mem_of_getElem? (i := 273) (by decide +kernel), List.mem_of_getElem? (i := 274) (by decide +kernel)⟩
theorem lw_p6 : lw_okq (⟨"ApiCompare$Offer", "isMethodAt", "(II)Z"⟩, 8) := ⟨⟨by decide +kernel, by decide +kernel⟩, List.mem_of_getElem? (i := 16) (by decide +kernel), List.mem_of_getElem? (i := 282) (by decide +kernel), List.mem_of_getElem? (i := 283) (by decide +kernel)⟩
theorem lw_p7 : lw_okq (⟨"ApiCompare$Binding", "bindMethod", "(LApiCompare$Use;LApiCompare$Offer;I)I"⟩, 9) := ⟨⟨by decide +kernel, by decide +kernel⟩, List.mem_of_getElem? (i := 81) (by decide +kernel), List.mem_of_getElem? (i := 290) (by decide +kernel), List.mem_of_getElem? (i := 291) (by decide +kernel)⟩
theorem lw_p8 : lw_okq (⟨"ApiCompare$Binding", "bindOverride", "(LApiCompare$Use;LApiCompare$Offer;)I"⟩, 9) := ⟨⟨by decide +kernel, by decide +kernel⟩, List.mem_of_getElem? (i := 81) (by decide +kernel), List.mem_of_getElem? (i := 302) (by decide +kernel), List.mem_of_getElem? (i := 303) (by decide +kernel)⟩
theorem lw_p9 : lw_okq (⟨"ApiCompare", "fateOf", "(I)I"⟩, 6) := ⟨⟨by decide +kernel, by decide +kernel⟩, List.mem_of_getElem? (i := 8) (by decide +kernel), List.mem_of_getElem? (i := 310) (by decide +kernel), List.mem_of_getElem? (i := 311) (by decide +kernel)⟩
theorem lw_p10 : lw_okq (⟨"ApiCompare$Binding", "isStillValue", "(LApiCompare$Use;LApiCompare$Offer;)Z"⟩, 9) := ⟨⟨by decide +kernel, by decide +kernel⟩, List.mem_of_getElem? (i := 81) (by decide +kernel), List.mem_of_getElem? (i := 318) (by decide +kernel), List.mem_of_getElem? (i := 319) (by decide +kernel)⟩
theorem lw_p11 : lw_okq (⟨"ApiCompare$Binding", "fateOfField", "(LApiCompare$Use;LApiCompare$Offer;)I"⟩, 9) := ⟨⟨by decide +kernel, by decide +kernel⟩, List.mem_of_getElem? (i := 81) (by decide +kernel), List.mem_of_getElem? (i := 322) (by decide +kernel), List.mem_of_getElem? (i := 323) (by decide +kernel)⟩
theorem lw_p12 : lw_okq (⟨"ApiCompare$Binding", "fateOfCall", "(LApiCompare$Use;LApiCompare$Offer;)I"⟩, 9) := ⟨⟨by decide +kernel, by decide +kernel⟩, List.mem_of_getElem? (i := 81) (by decide +kernel), List.mem_of_getElem? (i := 326) (by decide +kernel), List.mem_of_getElem? (i := 327) (by decide +kernel)⟩
theorem lw_p13 : lw_okq (⟨"ApiCompare$Binding", "isSubtypeBarred", "(LApiCompare$Use;LApiCompare$Offer;)Z"⟩, 9) := ⟨⟨by decide +kernel, by decide +kernel⟩, List.mem_of_getElem? (i := 81) (by decide +kernel), List.mem_of_getElem? (i := 330) (by decide +kernel), List.mem_of_getElem? (i := 331) (by decide +kernel)⟩
theorem lw_p14 : lw_okq (⟨"ApiCompare$Binding", "fateOfOverride", "(LApiCompare$Use;LApiCompare$Offer;)I"⟩, 9) := ⟨⟨by decide +kernel, by decide +kernel⟩, List.mem_of_getElem? (i := 81) (by decide +kernel), List.mem_of_getElem? (i := 334) (by decide +kernel), List.mem_of_getElem? (i := 335) (by decide +kernel)⟩
theorem lw_p15 : lw_okq (⟨"ApiCompare$Binding", "isSameField", "(LApiCompare$Binding;)Z"⟩, 9) := ⟨⟨by decide +kernel, by decide +kernel⟩, List.mem_of_getElem? (i := 81) (by decide +kernel), List.mem_of_getElem? (i := 346) (by decide +kernel), List.mem_of_getElem? (i := 347) (by decide +kernel)⟩
def lw_privs_1 : List (MethodName × Nat) := [(⟨"ApiCompare", "offerOf", "(I)LApiCompare$Offer;"⟩, 6), (⟨"ApiCompare$Offer", "hasFlag", "(II)Z"⟩, 8), (⟨"ApiCompare", "isTypeThere", "(II)Z"⟩, 6), (⟨"ApiCompare$Binding", "bindField", "(LApiCompare$Use;LApiCompare$Offer;)I"⟩, 9), (⟨"ApiCompare$Offer", "findFieldFrom", "(IIII)I"⟩, 8), (⟨"ApiCompare$Binding", "bindCall", "(LApiCompare$Use;LApiCompare$Offer;)I"⟩, 9), (⟨"ApiCompare$Offer", "isMethodAt", "(II)Z"⟩, 8), (⟨"ApiCompare$Binding", "bindMethod", "(LApiCompare$Use;LApiCompare$Offer;I)I"⟩, 9), (⟨"ApiCompare$Binding", "bindOverride", "(LApiCompare$Use;LApiCompare$Offer;)I"⟩, 9), (⟨"ApiCompare", "fateOf", "(I)I"⟩, 6), (⟨"ApiCompare$Binding", "isStillValue", "(LApiCompare$Use;LApiCompare$Offer;)Z"⟩, 9), (⟨"ApiCompare$Binding", "fateOfField", "(LApiCompare$Use;LApiCompare$Offer;)I"⟩, 9), (⟨"ApiCompare$Binding", "fateOfCall", "(LApiCompare$Use;LApiCompare$Offer;)I"⟩, 9), (⟨"ApiCompare$Binding", "isSubtypeBarred", "(LApiCompare$Use;LApiCompare$Offer;)Z"⟩, 9), (⟨"ApiCompare$Binding", "fateOfOverride", "(LApiCompare$Use;LApiCompare$Offer;)I"⟩, 9), (⟨"ApiCompare$Binding", "isSameField", "(LApiCompare$Binding;)Z"⟩, 9)]
theorem lw_r1 : ∀ q ∈ lw_privs_1, lw_okq q := List.forall_mem_cons.mpr ⟨lw_p0, List.forall_mem_cons.mpr ⟨lw_p1, List.forall_mem_cons.mpr ⟨lw_p2, List.forall_mem_cons.mpr ⟨lw_p3, List.forall_mem_cons.mpr ⟨lw_p4, List.forall_mem_cons.mpr ⟨lw_p5, List.forall_mem_cons.mpr ⟨lw_p6, List.forall_mem_cons.mpr ⟨lw_p7, List.forall_mem_cons.mpr ⟨lw_p8, List.forall_mem_cons.mpr ⟨lw_p9, List.forall_mem_cons.mpr ⟨lw_p10, List.forall_mem_cons.mpr ⟨lw_p11, List.forall_mem_cons.mpr ⟨lw_p12, List.forall_mem_cons.mpr ⟨lw_p13, List.forall_mem_cons.mpr ⟨lw_p14, List.forall_mem_cons.mpr ⟨lw_p15, fun _ h => absurd h List.not_mem_nil⟩⟩⟩⟩⟩⟩⟩⟩⟩⟩⟩⟩⟩⟩⟩⟩
theorem lw_p16 : lw_okq (⟨"ApiCompare$Offer", "isSameField", "(LApiCompare$Offer;I)Z"⟩, 8) := ⟨⟨by decide +kernel, by decide +kernel⟩, List.mem_of_getElem? (i := 16) (by decide +kernel), List.mem_of_getElem? (i := 381) (by decide +kernel), List.mem_of_getElem? (i := 382) (by decide +kernel)⟩
theorem lw_p17 : lw_okq (⟨"ApiCompare$Offer", "isSameMethod", "(LApiCompare$Offer;I)Z"⟩, 8) := ⟨⟨by decide +kernel, by decide +kernel⟩, List.mem_of_getElem? (i := 16) (by decide +kernel), List.mem_of_getElem? (i := 385) (by decide +kernel), List.mem_of_getElem? (i := 386) (by decide +kernel)⟩
theorem lw_p18 : lw_okq (⟨"ApiCompareModel", "parentsRight", "(IIII)Z"⟩, 13) := ⟨⟨by decide +kernel, by decide +kernel⟩, List.mem_of_getElem? (i := 402) (by decide +kernel), List.mem_of_getElem? (i := 456) (by decide +kernel), List.mem_of_getElem? (i := 457) (by decide +kernel)⟩
theorem lw_p19 : lw_okq (⟨"ApiCompareModel", "named", "(II)Z"⟩, 13) := ⟨⟨by decide +kernel, by decide +kernel⟩, List.mem_of_getElem? (i := 402) (by decide +kernel), List.mem_of_getElem? (i := 460) (by decide +kernel), List.mem_of_getElem? (i := 461) (by decide +kernel)⟩
theorem lw_p20 : lw_okq (⟨"ApiCompareModel", "bind", "(II)I"⟩, 13) := ⟨⟨by decide +kernel, by decide +kernel⟩, List.mem_of_getElem? (i := 402) (by decide +kernel), List.mem_of_getElem? (i := 492) (by decide +kernel), List.mem_of_getElem? (i := 493) (by decide +kernel)⟩
theorem lw_p21 : lw_okq (⟨"ApiCompareModel", "bindField", "(IIII)I"⟩, 13) := ⟨⟨by decide +kernel, by decide +kernel⟩, List.mem_of_getElem? (i := 402) (by decide +kernel), List.mem_of_getElem? (i := 496) (by decide +kernel), List.mem_of_getElem? (i := 497) (by decide +kernel)⟩
theorem lw_p22 : lw_okq (⟨"ApiCompareModel", "findField", "(IIII)I"⟩, 13) := ⟨⟨by decide +kernel, by decide +kernel⟩, List.mem_of_getElem? (i := 402) (by decide +kernel), List.mem_of_getElem? (i := 500) (by decide +kernel), List.mem_of_getElem? (i := 501) (by decide +kernel)⟩
theorem lw_p23 : lw_okq (⟨"ApiCompareModel", "bindCall", "(IIIII)I"⟩, 13) := ⟨⟨by decide +kernel, by decide +kernel⟩, List.mem_of_getElem? (i := 402) (by decide +kernel), List.mem_of_getElem? (i := 507) (by decide +kernel), List.mem_of_getElem? (i := 508) (by decide +kernel)⟩
theorem lw_p24 : lw_okq (⟨"ApiCompareModel", "findMethod", "(IIIII)I"⟩, 13) := ⟨⟨by decide +kernel, by decide +kernel⟩, List.mem_of_getElem? (i := 402) (by decide +kernel), List.mem_of_getElem? (i := 511) (by decide +kernel), List.mem_of_getElem? (i := 512) (by decide +kernel)⟩
theorem lw_p25 : lw_okq (⟨"ApiCompareModel", "isMethod", "(II)Z"⟩, 13) := ⟨⟨by decide +kernel, by decide +kernel⟩, List.mem_of_getElem? (i := 402) (by decide +kernel), List.mem_of_getElem? (i := 515) (by decide +kernel), List.mem_of_getElem? (i := 516) (by decide +kernel)⟩
theorem lw_p26 : lw_okq (⟨"ApiCompareModel", "isUnder", "(III)Z"⟩, 13) := ⟨⟨by decide +kernel, by decide +kernel⟩, List.mem_of_getElem? (i := 402) (by decide +kernel), List.mem_of_getElem? (i := 519) (by decide +kernel), List.mem_of_getElem? (i := 520) (by decide +kernel)⟩
theorem lw_p27 : lw_okq (⟨"ApiCompareModel", "bindMethod", "(III)I"⟩, 13) := ⟨⟨by decide +kernel, by decide +kernel⟩, List.mem_of_getElem? (i := 402) (by decide +kernel), List.mem_of_getElem? (i := 523) (by decide +kernel), List.mem_of_getElem? (i := 524) (by decide +kernel)⟩
theorem lw_p28 : lw_okq (⟨"ApiCompareModel", "bindOverride", "(IIII)I"⟩, 13) := ⟨⟨by decide +kernel, by decide +kernel⟩, List.mem_of_getElem? (i := 402) (by decide +kernel), List.mem_of_getElem? (i := 527) (by decide +kernel), List.mem_of_getElem? (i := 528) (by decide +kernel)⟩
theorem lw_p29 : lw_okq (⟨"ApiCompareModel", "linked", "(I)I"⟩, 13) := ⟨⟨by decide +kernel, by decide +kernel⟩, List.mem_of_getElem? (i := 402) (by decide +kernel), List.mem_of_getElem? (i := 535) (by decide +kernel), List.mem_of_getElem? (i := 536) (by decide +kernel)⟩
theorem lw_p30 : lw_okq (⟨"ApiCompareModel", "linkValue", "(II)I"⟩, 13) := ⟨⟨by decide +kernel, by decide +kernel⟩, List.mem_of_getElem? (i := 402) (by decide +kernel), List.mem_of_getElem? (i := 539) (by decide +kernel), List.mem_of_getElem? (i := 540) (by decide +kernel)⟩
theorem lw_p31 : lw_okq (⟨"ApiCompareModel", "linkField", "(III)I"⟩, 13) := ⟨⟨by decide +kernel, by decide +kernel⟩, List.mem_of_getElem? (i := 402) (by decide +kernel), List.mem_of_getElem? (i := 543) (by decide +kernel), List.mem_of_getElem? (i := 544) (by decide +kernel)⟩
def lw_privs_2 : List (MethodName × Nat) := [(⟨"ApiCompare$Offer", "isSameField", "(LApiCompare$Offer;I)Z"⟩, 8), (⟨"ApiCompare$Offer", "isSameMethod", "(LApiCompare$Offer;I)Z"⟩, 8), (⟨"ApiCompareModel", "parentsRight", "(IIII)Z"⟩, 13), (⟨"ApiCompareModel", "named", "(II)Z"⟩, 13), (⟨"ApiCompareModel", "bind", "(II)I"⟩, 13), (⟨"ApiCompareModel", "bindField", "(IIII)I"⟩, 13), (⟨"ApiCompareModel", "findField", "(IIII)I"⟩, 13), (⟨"ApiCompareModel", "bindCall", "(IIIII)I"⟩, 13), (⟨"ApiCompareModel", "findMethod", "(IIIII)I"⟩, 13), (⟨"ApiCompareModel", "isMethod", "(II)Z"⟩, 13), (⟨"ApiCompareModel", "isUnder", "(III)Z"⟩, 13), (⟨"ApiCompareModel", "bindMethod", "(III)I"⟩, 13), (⟨"ApiCompareModel", "bindOverride", "(IIII)I"⟩, 13), (⟨"ApiCompareModel", "linked", "(I)I"⟩, 13), (⟨"ApiCompareModel", "linkValue", "(II)I"⟩, 13), (⟨"ApiCompareModel", "linkField", "(III)I"⟩, 13)]
theorem lw_r2 : ∀ q ∈ lw_privs_2, lw_okq q := List.forall_mem_cons.mpr ⟨lw_p16, List.forall_mem_cons.mpr ⟨lw_p17, List.forall_mem_cons.mpr ⟨lw_p18, List.forall_mem_cons.mpr ⟨lw_p19, List.forall_mem_cons.mpr ⟨lw_p20, List.forall_mem_cons.mpr ⟨lw_p21, List.forall_mem_cons.mpr ⟨lw_p22, List.forall_mem_cons.mpr ⟨lw_p23, List.forall_mem_cons.mpr ⟨lw_p24, List.forall_mem_cons.mpr ⟨lw_p25, List.forall_mem_cons.mpr ⟨lw_p26, List.forall_mem_cons.mpr ⟨lw_p27, List.forall_mem_cons.mpr ⟨lw_p28, List.forall_mem_cons.mpr ⟨lw_p29, List.forall_mem_cons.mpr ⟨lw_p30, List.forall_mem_cons.mpr ⟨lw_p31, fun _ h => absurd h List.not_mem_nil⟩⟩⟩⟩⟩⟩⟩⟩⟩⟩⟩⟩⟩⟩⟩⟩
theorem lw_p32 : lw_okq (⟨"ApiCompareModel", "linkCall", "(II)I"⟩, 13) := ⟨⟨by decide +kernel, by decide +kernel⟩, List.mem_of_getElem? (i := 402) (by decide +kernel), List.mem_of_getElem? (i := 547) (by decide +kernel), List.mem_of_getElem? (i := 548) (by decide +kernel)⟩
theorem lw_p33 : lw_okq (⟨"ApiCompareModel", "linkOverride", "(II)I"⟩, 13) := ⟨⟨by decide +kernel, by decide +kernel⟩, List.mem_of_getElem? (i := 402) (by decide +kernel), List.mem_of_getElem? (i := 551) (by decide +kernel), List.mem_of_getElem? (i := 552) (by decide +kernel)⟩
theorem lw_p34 : lw_okq (⟨"ApiCompareModel", "having", "(I)I"⟩, 13) := ⟨⟨by decide +kernel, by decide +kernel⟩, List.mem_of_getElem? (i := 402) (by decide +kernel), List.mem_of_getElem? (i := 568) (by decide +kernel), List.mem_of_getElem? (i := 569) (by decide +kernel)⟩
theorem lw_p35 : lw_okq (⟨"ApiCompareModel", "state", "(I)I"⟩, 13) := ⟨⟨by decide +kernel, by decide +kernel⟩, List.mem_of_getElem? (i := 402) (by decide +kernel), List.mem_of_getElem? (i := 572) (by decide +kernel), List.mem_of_getElem? (i := 573) (by decide +kernel)⟩
theorem lw_p36 : lw_okq (⟨"ApiCompareModel", "differences", "(I)I"⟩, 13) := ⟨⟨by decide +kernel, by decide +kernel⟩, List.mem_of_getElem? (i := 402) (by decide +kernel), List.mem_of_getElem? (i := 588) (by decide +kernel), List.mem_of_getElem? (i := 589) (by decide +kernel)⟩
def lw_privs_3 : List (MethodName × Nat) := [(⟨"ApiCompareModel", "linkCall", "(II)I"⟩, 13), (⟨"ApiCompareModel", "linkOverride", "(II)I"⟩, 13), (⟨"ApiCompareModel", "having", "(I)I"⟩, 13), (⟨"ApiCompareModel", "state", "(I)I"⟩, 13), (⟨"ApiCompareModel", "differences", "(I)I"⟩, 13)]
theorem lw_r3 : ∀ q ∈ lw_privs_3, lw_okq q := List.forall_mem_cons.mpr ⟨lw_p32, List.forall_mem_cons.mpr ⟨lw_p33, List.forall_mem_cons.mpr ⟨lw_p34, List.forall_mem_cons.mpr ⟨lw_p35, List.forall_mem_cons.mpr ⟨lw_p36, fun _ h => absurd h List.not_mem_nil⟩⟩⟩⟩⟩
def lw_privs : List (MethodName × Nat) := lw_privs_1 ++ (lw_privs_2 ++ (lw_privs_3))
def lw_tbl : List Cond := k2_sels lw_privs ++ tables_1
theorem lw_privs_ok : ∀ q ∈ lw_privs, lw_okq q := by
  show ∀ q ∈ lw_privs_1 ++ (lw_privs_2 ++ (lw_privs_3)), lw_okq q
  exact List.forall_mem_append.mpr ⟨lw_r1, List.forall_mem_append.mpr ⟨lw_r2, lw_r3⟩⟩
end
section
def R_B : String := "ApiCompare$Binding"
def T_B : u_T := fun k => match k with
  | 0 => ("ApiCompare$Binding", "error", "I", false)
  | 1 => ("ApiCompare$Binding", "ofInterface", "Z", false)
  | 2 => ("ApiCompare$Binding", "toValue", "Z", false)
  | 3 => ("ApiCompare$Binding", "fieldKind", "I", false)
  | 4 => ("ApiCompare$Binding", "number", "I", false)
  | 5 => ("ApiCompare$Binding", "isStatic", "Z", false)
  | 6 => ("ApiCompare$Binding", "parameter", "I", false)
  | 7 => ("ApiCompare$Binding", "answer", "I", false)
  | _ => ("ApiCompare$Binding", "home", "I", false)
def t_B : Nat → FieldType := fun k => match k with
  | 0 => .int
  | 1 => .boolean
  | 2 => .boolean
  | 3 => .int
  | 4 => .int
  | 5 => .boolean
  | 6 => .int
  | 7 => .int
  | _ => .int
def R_O : String := "ApiCompare$Offer"
def T_O : u_T := fun k => match k with
  | 0 => ("ApiCompare$Offer", "typeFlags", "[I", true)
  | 1 => ("ApiCompare$Offer", "superOf", "[I", true)
  | 2 => ("ApiCompare$Offer", "interfacesOf", "[I", true)
  | 3 => ("ApiCompare$Offer", "fieldFlags", "[I", true)
  | 4 => ("ApiCompare$Offer", "fieldKind", "[I", true)
  | 5 => ("ApiCompare$Offer", "fieldNumber", "[I", true)
  | 6 => ("ApiCompare$Offer", "methodFlags", "[I", true)
  | _ => ("ApiCompare$Offer", "methodAnswer", "[I", true)
def t_O : Nat → FieldType := fun k => match k with
  | 0 => .array .int
  | 1 => .array .int
  | 2 => .array .int
  | 3 => .array .int
  | 4 => .array .int
  | 5 => .array .int
  | 6 => .array .int
  | _ => .array .int
def R_U : String := "ApiCompare$Use"
def T_U : u_T := fun k => match k with
  | 0 => ("ApiCompare$Use", "kind", "I", false)
  | 1 => ("ApiCompare$Use", "type", "I", false)
  | 2 => ("ApiCompare$Use", "name", "I", false)
  | _ => ("ApiCompare$Use", "argument", "I", false)
def t_U : Nat → FieldType := fun k => match k with
  | 0 => .int
  | 1 => .int
  | 2 => .int
  | _ => .int
def R_A : String := "ApiCompare"
def T_A : u_T := fun k => match k with
  | 0 => ("ApiCompare", "oldOffer", "LApiCompare$Offer;", true)
  | 1 => ("ApiCompare", "newOffer", "LApiCompare$Offer;", true)
  | 2 => ("ApiCompare", "uses", "[LApiCompare$Use;", true)
  | 3 => ("ApiCompare", "useCount", "I", false)
  | 4 => ("ApiCompare", "oldBinding", "LApiCompare$Binding;", true)
  | _ => ("ApiCompare", "newBinding", "LApiCompare$Binding;", true)
def t_A : Nat → FieldType := fun k => match k with
  | 0 => .object "ApiCompare$Offer"
  | 1 => .object "ApiCompare$Offer"
  | 2 => .array (.object "ApiCompare$Use")
  | 3 => .int
  | 4 => .object "ApiCompare$Binding"
  | _ => .object "ApiCompare$Binding"
def R_M : String := "ApiCompareModel"
def T_M : u_T := fun k => match k with
  | 0 => ("ApiCompareModel", "there", "[Z", true)
  | 1 => ("ApiCompareModel", "flags", "[I", true)
  | 2 => ("ApiCompareModel", "above", "[I", true)
  | 3 => ("ApiCompareModel", "faces", "[I", true)
  | 4 => ("ApiCompareModel", "fKind", "[I", true)
  | 5 => ("ApiCompareModel", "fFlags", "[I", true)
  | 6 => ("ApiCompareModel", "fValue", "[I", true)
  | 7 => ("ApiCompareModel", "mAnswer", "[I", true)
  | 8 => ("ApiCompareModel", "mFlags", "[I", true)
  | 9 => ("ApiCompareModel", "uses", "I", false)
  | 10 => ("ApiCompareModel", "use", "[I", true)
  | 11 => ("ApiCompareModel", "bound", "[I", true)
  | _ => ("ApiCompareModel", "visit", "[I", true)
def t_M : Nat → FieldType := fun k => match k with
  | 0 => .array .boolean
  | 1 => .array .int
  | 2 => .array .int
  | 3 => .array .int
  | 4 => .array .int
  | 5 => .array .int
  | 6 => .array .int
  | 7 => .array .int
  | 8 => .array .int
  | 9 => .int
  | 10 => .array .int
  | 11 => .array .int
  | _ => .array .int
def R_L : String := "ApiCompareLaw"
abbrev b_A_init : ByteArray := prog_1_method_1_code
def y_A_init : MethodName := ⟨R_A, "<init>", "()V"⟩
abbrev b_A_type : ByteArray := prog_1_method_2_code
def y_A_type : MethodName := ⟨R_A, "type", "(IIIII)I"⟩
abbrev b_A_drop : ByteArray := prog_1_method_3_code
def y_A_drop : MethodName := ⟨R_A, "drop", "(II)I"⟩
abbrev b_A_field : ByteArray := prog_1_method_4_code
def y_A_field : MethodName := ⟨R_A, "field", "(IIII)I"⟩
abbrev b_A_method : ByteArray := prog_1_method_5_code
def y_A_method : MethodName := ⟨R_A, "method", "(IIII)I"⟩
abbrev b_A_cut : ByteArray := prog_1_method_6_code
def y_A_cut : MethodName := ⟨R_A, "cut", "(IIII)I"⟩
abbrev b_A_copy : ByteArray := prog_1_method_7_code
def y_A_copy : MethodName := ⟨R_A, "copy", "()I"⟩
abbrev b_A_use : ByteArray := prog_1_method_8_code
def y_A_use : MethodName := ⟨R_A, "use", "(IIII)I"⟩
abbrev b_A_compile : ByteArray := prog_1_method_9_code
def y_A_compile : MethodName := ⟨R_A, "compile", "(II)I"⟩
abbrev b_A_link : ByteArray := prog_1_method_10_code
def y_A_link : MethodName := ⟨R_A, "link", "(I)I"⟩
abbrev b_A_recompile : ByteArray := prog_1_method_11_code
def y_A_recompile : MethodName := ⟨R_A, "recompile", "(I)I"⟩
abbrev b_A_value : ByteArray := prog_1_method_12_code
def y_A_value : MethodName := ⟨R_A, "value", "(II)D"⟩
abbrev b_A_share : ByteArray := prog_1_method_13_code
def y_A_share : MethodName := ⟨R_A, "share", "()D"⟩
abbrev b_A_breaking : ByteArray := prog_1_method_14_code
def y_A_breaking : MethodName := ⟨R_A, "breaking", "()I"⟩
abbrev b_A_broken : ByteArray := prog_1_method_15_code
def y_A_broken : MethodName := ⟨R_A, "broken", "(I)I"⟩
abbrev b_A_differ : ByteArray := prog_1_method_16_code
def y_A_differ : MethodName := ⟨R_A, "differ", "(I)I"⟩
abbrev b_A_under : ByteArray := prog_1_method_17_code
def y_A_under : MethodName := ⟨R_A, "under", "(III)Z"⟩
abbrev b_A_count : ByteArray := prog_1_method_18_code
def y_A_count : MethodName := ⟨R_A, "count", "(II)I"⟩
abbrev b_A_offerOf : ByteArray := prog_1_method_19_code
def y_A_offerOf : MethodName := ⟨R_A, "offerOf", "(I)LApiCompare$Offer;"⟩
abbrev b_A_isTypeThere : ByteArray := prog_1_method_20_code
def y_A_isTypeThere : MethodName := ⟨R_A, "isTypeThere", "(II)Z"⟩
abbrev b_A_fateOf : ByteArray := prog_1_method_21_code
def y_A_fateOf : MethodName := ⟨R_A, "fateOf", "(I)I"⟩
abbrev b_A_isError : ByteArray := prog_1_method_22_code
def y_A_isError : MethodName := ⟨R_A, "isError", "(I)Z"⟩
abbrev b_A_breaks : ByteArray := prog_1_method_23_code
def y_A_breaks : MethodName := ⟨R_A, "breaks", "(I)Z"⟩
abbrev b_A_isBelow : ByteArray := prog_1_method_24_code
def y_A_isBelow : MethodName := ⟨R_A, "isBelow", "(II)Z"⟩
abbrev b_A_areFieldFlags : ByteArray := prog_1_method_25_code
def y_A_areFieldFlags : MethodName := ⟨R_A, "areFieldFlags", "(I)Z"⟩
abbrev b_A_areMethodFlags : ByteArray := prog_1_method_26_code
def y_A_areMethodFlags : MethodName := ⟨R_A, "areMethodFlags", "(I)Z"⟩
abbrev b_A_methodPlace : ByteArray := prog_1_method_27_code
def y_A_methodPlace : MethodName := ⟨R_A, "methodPlace", "(III)I"⟩
abbrev b_A_holds : ByteArray := prog_1_method_28_code
def y_A_holds : MethodName := ⟨R_A, "holds", "(II)Z"⟩
abbrev b_A_howManyThere : ByteArray := prog_1_method_29_code
def y_A_howManyThere : MethodName := ⟨R_A, "howManyThere", "([I)I"⟩
abbrev b_M_init : ByteArray := prog_6_method_1_code
def y_M_init : MethodName := ⟨R_M, "<init>", "()V"⟩
abbrev b_M_in : ByteArray := prog_6_method_2_code
def y_M_in : MethodName := ⟨R_M, "in", "(III)Z"⟩
abbrev b_M_bit : ByteArray := prog_6_method_3_code
def y_M_bit : MethodName := ⟨R_M, "bit", "(II)I"⟩
abbrev b_M_named : ByteArray := prog_6_method_4_code
def y_M_named : MethodName := ⟨R_M, "named", "(II)Z"⟩
abbrev b_M_parentsRight : ByteArray := prog_6_method_5_code
def y_M_parentsRight : MethodName := ⟨R_M, "parentsRight", "(IIII)Z"⟩
abbrev b_M_type : ByteArray := prog_6_method_6_code
def y_M_type : MethodName := ⟨R_M, "type", "(IIIII)I"⟩
abbrev b_M_drop : ByteArray := prog_6_method_7_code
def y_M_drop : MethodName := ⟨R_M, "drop", "(II)I"⟩
abbrev b_M_field : ByteArray := prog_6_method_8_code
def y_M_field : MethodName := ⟨R_M, "field", "(IIII)I"⟩
abbrev b_M_method : ByteArray := prog_6_method_9_code
def y_M_method : MethodName := ⟨R_M, "method", "(IIII)I"⟩
abbrev b_M_cut : ByteArray := prog_6_method_10_code
def y_M_cut : MethodName := ⟨R_M, "cut", "(IIII)I"⟩
abbrev b_M_copy : ByteArray := prog_6_method_11_code
def y_M_copy : MethodName := ⟨R_M, "copy", "()I"⟩
abbrev b_M_use : ByteArray := prog_6_method_12_code
def y_M_use : MethodName := ⟨R_M, "use", "(IIII)I"⟩
abbrev b_M_findField : ByteArray := prog_6_method_13_code
def y_M_findField : MethodName := ⟨R_M, "findField", "(IIII)I"⟩
abbrev b_M_isUnder : ByteArray := prog_6_method_14_code
def y_M_isUnder : MethodName := ⟨R_M, "isUnder", "(III)Z"⟩
abbrev b_M_isMethod : ByteArray := prog_6_method_15_code
def y_M_isMethod : MethodName := ⟨R_M, "isMethod", "(II)Z"⟩
abbrev b_M_findMethod : ByteArray := prog_6_method_16_code
def y_M_findMethod : MethodName := ⟨R_M, "findMethod", "(IIIII)I"⟩
abbrev b_M_bindField : ByteArray := prog_6_method_17_code
def y_M_bindField : MethodName := ⟨R_M, "bindField", "(IIII)I"⟩
abbrev b_M_bindMethod : ByteArray := prog_6_method_18_code
def y_M_bindMethod : MethodName := ⟨R_M, "bindMethod", "(III)I"⟩
abbrev b_M_bindCall : ByteArray := prog_6_method_19_code
def y_M_bindCall : MethodName := ⟨R_M, "bindCall", "(IIIII)I"⟩
abbrev b_M_bindOverride : ByteArray := prog_6_method_20_code
def y_M_bindOverride : MethodName := ⟨R_M, "bindOverride", "(IIII)I"⟩
abbrev b_M_bind : ByteArray := prog_6_method_21_code
def y_M_bind : MethodName := ⟨R_M, "bind", "(II)I"⟩
abbrev b_M_compile : ByteArray := prog_6_method_22_code
def y_M_compile : MethodName := ⟨R_M, "compile", "(II)I"⟩
abbrev b_M_linkValue : ByteArray := prog_6_method_23_code
def y_M_linkValue : MethodName := ⟨R_M, "linkValue", "(II)I"⟩
abbrev b_M_linkField : ByteArray := prog_6_method_24_code
def y_M_linkField : MethodName := ⟨R_M, "linkField", "(III)I"⟩
abbrev b_M_linkCall : ByteArray := prog_6_method_25_code
def y_M_linkCall : MethodName := ⟨R_M, "linkCall", "(II)I"⟩
abbrev b_M_linkOverride : ByteArray := prog_6_method_26_code
def y_M_linkOverride : MethodName := ⟨R_M, "linkOverride", "(II)I"⟩
abbrev b_M_linked : ByteArray := prog_6_method_27_code
def y_M_linked : MethodName := ⟨R_M, "linked", "(I)I"⟩
abbrev b_M_link : ByteArray := prog_6_method_28_code
def y_M_link : MethodName := ⟨R_M, "link", "(I)I"⟩
abbrev b_M_recompile : ByteArray := prog_6_method_29_code
def y_M_recompile : MethodName := ⟨R_M, "recompile", "(I)I"⟩
abbrev b_M_value : ByteArray := prog_6_method_30_code
def y_M_value : MethodName := ⟨R_M, "value", "(II)D"⟩
abbrev b_M_state : ByteArray := prog_6_method_31_code
def y_M_state : MethodName := ⟨R_M, "state", "(I)I"⟩
abbrev b_M_having : ByteArray := prog_6_method_32_code
def y_M_having : MethodName := ⟨R_M, "having", "(I)I"⟩
abbrev b_M_share : ByteArray := prog_6_method_33_code
def y_M_share : MethodName := ⟨R_M, "share", "()D"⟩
abbrev b_M_breaking : ByteArray := prog_6_method_34_code
def y_M_breaking : MethodName := ⟨R_M, "breaking", "()I"⟩
abbrev b_M_broken : ByteArray := prog_6_method_35_code
def y_M_broken : MethodName := ⟨R_M, "broken", "(I)I"⟩
abbrev b_M_differences : ByteArray := prog_6_method_36_code
def y_M_differences : MethodName := ⟨R_M, "differences", "(I)I"⟩
abbrev b_M_differ : ByteArray := prog_6_method_37_code
def y_M_differ : MethodName := ⟨R_M, "differ", "(I)I"⟩
abbrev b_M_under : ByteArray := prog_6_method_38_code
def y_M_under : MethodName := ⟨R_M, "under", "(III)Z"⟩
abbrev b_M_count : ByteArray := prog_6_method_39_code
def y_M_count : MethodName := ⟨R_M, "count", "(II)I"⟩
abbrev b_B_init : ByteArray := prog_2_method_1_code
def y_B_init : MethodName := ⟨R_B, "<init>", "()V"⟩
abbrev b_B_bind : ByteArray := prog_2_method_2_code
def y_B_bind : MethodName := ⟨R_B, "bind", "(LApiCompare$Use;LApiCompare$Offer;)V"⟩
abbrev b_B_bindField : ByteArray := prog_2_method_3_code
def y_B_bindField : MethodName := ⟨R_B, "bindField", "(LApiCompare$Use;LApiCompare$Offer;)I"⟩
abbrev b_B_bindCall : ByteArray := prog_2_method_4_code
def y_B_bindCall : MethodName := ⟨R_B, "bindCall", "(LApiCompare$Use;LApiCompare$Offer;)I"⟩
abbrev b_B_bindMethod : ByteArray := prog_2_method_5_code
def y_B_bindMethod : MethodName := ⟨R_B, "bindMethod", "(LApiCompare$Use;LApiCompare$Offer;I)I"⟩
abbrev b_B_bindOverride : ByteArray := prog_2_method_6_code
def y_B_bindOverride : MethodName := ⟨R_B, "bindOverride", "(LApiCompare$Use;LApiCompare$Offer;)I"⟩
abbrev b_B_isSameAs : ByteArray := prog_2_method_7_code
def y_B_isSameAs : MethodName := ⟨R_B, "isSameAs", "(LApiCompare$Binding;I)Z"⟩
abbrev b_B_isSameField : ByteArray := prog_2_method_8_code
def y_B_isSameField : MethodName := ⟨R_B, "isSameField", "(LApiCompare$Binding;)Z"⟩
abbrev b_B_fateWith : ByteArray := prog_2_method_9_code
def y_B_fateWith : MethodName := ⟨R_B, "fateWith", "(LApiCompare$Use;LApiCompare$Offer;)I"⟩
abbrev b_B_isStillValue : ByteArray := prog_2_method_10_code
def y_B_isStillValue : MethodName := ⟨R_B, "isStillValue", "(LApiCompare$Use;LApiCompare$Offer;)Z"⟩
abbrev b_B_fateOfField : ByteArray := prog_2_method_11_code
def y_B_fateOfField : MethodName := ⟨R_B, "fateOfField", "(LApiCompare$Use;LApiCompare$Offer;)I"⟩
abbrev b_B_fateOfCall : ByteArray := prog_2_method_12_code
def y_B_fateOfCall : MethodName := ⟨R_B, "fateOfCall", "(LApiCompare$Use;LApiCompare$Offer;)I"⟩
abbrev b_B_isSubtypeBarred : ByteArray := prog_2_method_13_code
def y_B_isSubtypeBarred : MethodName := ⟨R_B, "isSubtypeBarred", "(LApiCompare$Use;LApiCompare$Offer;)Z"⟩
abbrev b_B_fateOfOverride : ByteArray := prog_2_method_14_code
def y_B_fateOfOverride : MethodName := ⟨R_B, "fateOfOverride", "(LApiCompare$Use;LApiCompare$Offer;)I"⟩
abbrev b_O_init : ByteArray := prog_3_method_1_code
def y_O_init : MethodName := ⟨R_O, "<init>", "()V"⟩
abbrev b_O_isThere : ByteArray := prog_3_method_2_code
def y_O_isThere : MethodName := ⟨R_O, "isThere", "(I)Z"⟩
abbrev b_O_isInterface : ByteArray := prog_3_method_3_code
def y_O_isInterface : MethodName := ⟨R_O, "isInterface", "(I)Z"⟩
abbrev b_O_isHidden : ByteArray := prog_3_method_4_code
def y_O_isHidden : MethodName := ⟨R_O, "isHidden", "(I)Z"⟩
abbrev b_O_isFinal : ByteArray := prog_3_method_5_code
def y_O_isFinal : MethodName := ⟨R_O, "isFinal", "(I)Z"⟩
abbrev b_O_isAbstract : ByteArray := prog_3_method_6_code
def y_O_isAbstract : MethodName := ⟨R_O, "isAbstract", "(I)Z"⟩
abbrev b_O_hasFlag : ByteArray := prog_3_method_7_code
def y_O_hasFlag : MethodName := ⟨R_O, "hasFlag", "(II)Z"⟩
abbrev b_O_canName : ByteArray := prog_3_method_8_code
def y_O_canName : MethodName := ⟨R_O, "canName", "(III)Z"⟩
abbrev b_O_isNamed : ByteArray := prog_3_method_9_code
def y_O_isNamed : MethodName := ⟨R_O, "isNamed", "(I)Z"⟩
abbrev b_O_putType : ByteArray := prog_3_method_10_code
def y_O_putType : MethodName := ⟨R_O, "putType", "(IIII)V"⟩
abbrev b_O_removeType : ByteArray := prog_3_method_11_code
def y_O_removeType : MethodName := ⟨R_O, "removeType", "(I)V"⟩
abbrev b_O_putField : ByteArray := prog_3_method_12_code
def y_O_putField : MethodName := ⟨R_O, "putField", "(IIII)V"⟩
abbrev b_O_removeField : ByteArray := prog_3_method_13_code
def y_O_removeField : MethodName := ⟨R_O, "removeField", "(I)Z"⟩
abbrev b_O_putMethod : ByteArray := prog_3_method_14_code
def y_O_putMethod : MethodName := ⟨R_O, "putMethod", "(III)V"⟩
abbrev b_O_removeMethod : ByteArray := prog_3_method_15_code
def y_O_removeMethod : MethodName := ⟨R_O, "removeMethod", "(I)Z"⟩
abbrev b_O_becomeAs : ByteArray := prog_3_method_16_code
def y_O_becomeAs : MethodName := ⟨R_O, "becomeAs", "(LApiCompare$Offer;)V"⟩
abbrev b_O_supertypesOf : ByteArray := prog_3_method_17_code
def y_O_supertypesOf : MethodName := ⟨R_O, "supertypesOf", "(I)I"⟩
abbrev b_O_findField : ByteArray := prog_3_method_18_code
def y_O_findField : MethodName := ⟨R_O, "findField", "(III)I"⟩
abbrev b_O_findFieldFrom : ByteArray := prog_3_method_19_code
def y_O_findFieldFrom : MethodName := ⟨R_O, "findFieldFrom", "(IIII)I"⟩
abbrev b_O_findMethod : ByteArray := prog_3_method_20_code
def y_O_findMethod : MethodName := ⟨R_O, "findMethod", "(IIII)I"⟩
abbrev b_O_isMethodAt : ByteArray := prog_3_method_21_code
def y_O_isMethodAt : MethodName := ⟨R_O, "isMethodAt", "(II)Z"⟩
abbrev b_O_differencesFrom : ByteArray := prog_3_method_22_code
def y_O_differencesFrom : MethodName := ⟨R_O, "differencesFrom", "(LApiCompare$Offer;I)I"⟩
abbrev b_O_isSameField : ByteArray := prog_3_method_23_code
def y_O_isSameField : MethodName := ⟨R_O, "isSameField", "(LApiCompare$Offer;I)Z"⟩
abbrev b_O_isSameMethod : ByteArray := prog_3_method_24_code
def y_O_isSameMethod : MethodName := ⟨R_O, "isSameMethod", "(LApiCompare$Offer;I)Z"⟩
abbrev b_U_init : ByteArray := prog_4_method_1_code
def y_U_init : MethodName := ⟨R_U, "<init>", "()V"⟩
abbrev b_U_tell : ByteArray := prog_4_method_2_code
def y_U_tell : MethodName := ⟨R_U, "tell", "(IIII)V"⟩
def y_L_law : MethodName := ⟨R_L, "law", "([I)Z"⟩
abbrev vwCl : List vw_C := [(R_B, T_B, 9), (R_O, T_O, 8), (R_U, T_U, 4), (R_A, T_A, 6), (R_M, T_M, 13)]
abbrev zk_tys (dA : Nat → ClassId) : List (ClassId × FieldType) := [(dA 0, .int), (dA 1, .object "ApiCompare$Use"), (dA 2, .boolean)]
end
section
/-! THE ENGINE: an abstract heap (cells by number, references by number), translated to the machine's by one base; a row an instruction, a row a call. -/
abbrev zk_E : Type := (Nat × vp_A) ⊕ (Nat × List Value)
abbrev zk_H : Type := List zk_E
/-- number 0 is the law's script, number i + 1 the i-th cell made -/
def zk_ad (b base : Nat) (i : Nat) : Nat := match i with
  | 0 => b
  | j + 1 => base + j
def zk_v (b base : Nat) (v : Value) : Value := match v with
  | .ref i => .ref (zk_ad b base i)
  | .int x => .int x
  | .long x => .long x
  | .float x => .float x
  | .double x => .double x
  | .null => .null
  | .retAddr x => .retAddr x
def zk_a (b base : Nat) (a : vp_A) : vp_A := match a with
  | (n, .inl f) => (n, .inl f)
  | (n, .inr (.inl f)) => (n, .inr (.inl f))
  | (n, .inr (.inr (.inl f))) => (n, .inr (.inr (.inl f)))
  | (n, .inr (.inr (.inr (.inl f)))) => (n, .inr (.inr (.inr (.inl f))))
  | (n, .inr (.inr (.inr (.inr f)))) => (n, .inr (.inr (.inr (.inr (fun j => (f j).map (zk_ad b base))))))
def zk_e (dA : Nat → ClassId) (b base : Nat) (x : zk_E) : va_E := match x with
  | .inl (t, a) => .inl (dA t, zk_a b base a)
  | .inr (ci, fs) => .inr (ci, fs.map (zk_v b base))
def zk_w (dA : Nat → ClassId) (b base : Nat) (h : zk_H) : va_W := h.mapIdx (fun i x => (base + i, zk_e dA b base x))
theorem zk_cat (b base : Nat) (v : Value) : (zk_v b base v).category = v.category := by cases v <;> rfl
theorem zk_w_get {dA : Nat → ClassId} {b base : Nat} {h : zk_H} {i : Nat} {x : zk_E} (hh : h[i]? = some x) : (zk_w dA b base h)[i]? = some (base + i, zk_e dA b base x) := by
  unfold zk_w
  rw [List.getElem?_mapIdx, hh]
  rfl
theorem zk_w_set (dA : Nat → ClassId) (b base : Nat) (h : zk_H) (i : Nat) (x : zk_E) : (zk_w dA b base h).set i (base + i, zk_e dA b base x) = zk_w dA b base (h.set i x) := by
  unfold zk_w
  rw [List.mapIdx_set]
theorem zk_w_push (dA : Nat → ClassId) (b base : Nat) (h : zk_H) (x : zk_E) : zk_w dA b base h ++ [(base + h.length, zk_e dA b base x)] = zk_w dA b base (h ++ [x]) := by
  unfold zk_w
  rw [List.mapIdx_append]
  simp
theorem zk_w_D (dA : Nat → ClassId) (b base : Nat) (h : zk_H) : va_D (fun q : Nat => base ≤ q) (zk_w dA b base h) := by
  have key : ∀ (k : Nat) (q : Nat × va_E), (zk_w dA b base h)[k]? = some q → q.1 = base + k := by
    intro k q hk
    unfold zk_w at hk
    rw [List.getElem?_mapIdx] at hk
    cases hx : h[k]? with
    | none => rw [hx] at hk; cases hk
    | some x => rw [hx] at hk; cases hk; rfl
  refine ⟨fun i j p q hi hj hpq => ?_, fun k q hk => ?_⟩
  · have h1 := key i p hi
    have h2 := key j q hj
    omega
  · rw [key k q hk]
    exact Nat.le_add_right _ _
/-- the locals, by place -/
def zk_l (b base : Nat) (ls : Array Slot) (nL : Nat) (ll : List (Option Value)) : Prop := ls.size = nL ∧ lv_wf ls ∧ ∀ (i : Nat) (v : Value), ll[i]? = some (some v) → ls[i]? = some (.val (zk_v b base v))
def zk_ll (b base : Nat) (ll : List (Option Value)) : List (Nat × Value) := ll.zipIdx.filterMap (fun q => q.1.map (fun v => (q.2, zk_v b base v)))
theorem zk_ll_mem {b base : Nat} {ll : List (Option Value)} {q : Nat × Value} : q ∈ zk_ll b base ll ↔ ∃ v, ll[q.1]? = some (some v) ∧ q.2 = zk_v b base v := by
  unfold zk_ll
  rw [List.mem_filterMap]
  constructor
  · rintro ⟨⟨o, i⟩, hm, hq⟩
    rw [List.mk_mem_zipIdx_iff_getElem?] at hm
    cases o with
    | none => cases hq
    | some v => cases hq; exact ⟨v, hm, rfl⟩
  · rintro ⟨v, hv, he⟩
    refine ⟨(some v, q.1), List.mk_mem_zipIdx_iff_getElem?.mpr hv, ?_⟩
    show some (q.1, zk_v b base v) = some q
    rw [← he]
theorem zk_l_has {b base : Nat} {ls : Array Slot} {nL : Nat} {ll : List (Option Value)} (h : zk_l b base ls nL ll) : lv_has ls nL (zk_ll b base ll) :=
  ⟨h.1, h.2.1, fun q hq => by obtain ⟨v, hv, he⟩ := zk_ll_mem.mp hq; rw [he]; exact h.2.2 q.1 v hv⟩
def zk_ok (ll : List (Option Value)) (i : Nat) : Bool := match i with
  | 0 => true
  | j + 1 => match ll[j]? with
    | some (some v) => v.category == 1
    | _ => true
theorem zk_ok_at {ll : List (Option Value)} {j : Nat} {u : Value} (hok : zk_ok ll (j + 1) = true) (hj : ll[j]? = some (some u)) : u.category = 1 := by
  unfold zk_ok at hok
  simp only [hj] at hok
  exact beq_iff_eq.mp hok
theorem zk_l_st1 {b base : Nat} {ls : Array Slot} {nL i : Nat} {ll : List (Option Value)} {v : Value} (hok : zk_ok ll i = true) (h : lv_has ls nL ((i, zk_v b base v) :: (zk_ll b base ll).filter (fun q => !(q.1 == i) && !(q.1 + 1 == i && q.2.category == 2)))) : zk_l b base ls nL (ll.set i (some v)) := by
  refine ⟨h.1, h.2.1, fun j u hj => ?_⟩
  rw [List.getElem?_set] at hj
  by_cases hji : i = j
  · subst hji
    rw [if_pos rfl] at hj
    by_cases hlt : i < ll.length
    · rw [if_pos hlt] at hj
      cases hj
      exact h.2.2 (i, zk_v b base v) List.mem_cons_self
    · rw [if_neg hlt] at hj
      cases hj
  · rw [if_neg hji] at hj
    refine h.2.2 (j, zk_v b base u) (List.mem_cons_of_mem _ (List.mem_filter.mpr ⟨zk_ll_mem.mpr ⟨u, hj, rfl⟩, ?_⟩))
    have hne : ¬ j = i := fun e => hji e.symm
    by_cases hs : j + 1 = i
    · subst hs
      have h1 := zk_ok_at hok hj
      simp [zk_cat, h1]
    · simp [hne, hs]
theorem zk_l_st2 {b base : Nat} {ls : Array Slot} {nL i : Nat} {ll : List (Option Value)} {v : Value} (hok : zk_ok ll i = true) (h : lv_has ls nL ((i, zk_v b base v) :: (zk_ll b base ll).filter (fun q => !(q.1 == i) && (!(q.1 == i + 1) && !(q.1 + 1 == i && q.2.category == 2))))) : zk_l b base ls nL ((ll.set i (some v)).set (i + 1) none) := by
  refine ⟨h.1, h.2.1, fun j u hj => ?_⟩
  rw [List.getElem?_set] at hj
  by_cases hj1 : i + 1 = j
  · rw [if_pos hj1] at hj
    by_cases hlt : i + 1 < (ll.set i (some v)).length
    · rw [if_pos hlt] at hj
      cases hj
    · rw [if_neg hlt] at hj
      cases hj
  · rw [if_neg hj1, List.getElem?_set] at hj
    by_cases hji : i = j
    · subst hji
      rw [if_pos rfl] at hj
      by_cases hlt : i < ll.length
      · rw [if_pos hlt] at hj
        cases hj
        exact h.2.2 (i, zk_v b base v) List.mem_cons_self
      · rw [if_neg hlt] at hj
        cases hj
    · rw [if_neg hji] at hj
      refine h.2.2 (j, zk_v b base u) (List.mem_cons_of_mem _ (List.mem_filter.mpr ⟨zk_ll_mem.mpr ⟨u, hj, rfl⟩, ?_⟩))
      have hne : ¬ j = i := fun e => hji e.symm
      have hne1 : ¬ j = i + 1 := fun e => hj1 e.symm
      by_cases hs : j + 1 = i
      · subst hs
        have h1 := zk_ok_at hok hj
        simp [zk_cat, h1]
        omega
      · simp [hne, hne1, hs]
theorem zk_l_drop {b base : Nat} {ls : Array Slot} {nL : Nat} {ll : List (Option Value)} (i : Nat) (h : zk_l b base ls nL ll) : zk_l b base ls nL (ll.set i none) := by
  refine ⟨h.1, h.2.1, fun j u hj => h.2.2 j u ?_⟩
  rw [List.getElem?_set] at hj
  by_cases hji : i = j
  · rw [if_pos hji] at hj
    by_cases hlt : i < ll.length
    · rw [if_pos hlt] at hj
      cases hj
    · rw [if_neg hlt] at hj
      cases hj
  · rw [if_neg hji] at hj
    exact hj
/-- the tables' words, for any arguments -/
def zk_good (w : Cond) : Bool := match w with
  | .fieldLinkNest .. => true
  | .methodLinkNest .. => true
  | .arrayClass _ => true
  | .arrayOver (.object _) => true
  | w => w.onTables && w.keeps
theorem zk_good_warm {s U : State} (hW : s.WarmedH U.vm) {w : Cond} (hg : zk_good w = true) (h : ∀ a : Array Value, w.before a s = true) (a : Array Value) : w.before a U = true := by
  unfold zk_good at hg
  split at hg
  · exact va_Nw.use rfl (va_Nw.warmF hW (h #[]))
  · exact va_Nw.use rfl (va_Nw.warmM hW (h #[]))
  · exact word_at hW (Or.inr ⟨_, rfl⟩) (h #[])
  · exact va_AO.use (va_AO.moved hW.alike (h #[]))
  · exact word_at hW (Or.inl hg) (h #[])
def zk_tb : List Cond := lw_tbl.filter zk_good
theorem zk_in {w : Cond} (h : w ∈ lw_tbl) (hg : zk_good w = true) : w ∈ zk_tb := List.mem_filter.mpr ⟨h, hg⟩
theorem zk_good_all : ∀ w ∈ zk_tb, zk_good w = true := fun _ hw => (List.mem_filter.mp hw).2
def zk_T (U : State) : Prop := ∀ w ∈ zk_tb, ∀ a : Array Value, w.before a U = true
theorem zk_T_warm {s U : State} (hW : s.WarmedH U.vm) (h : zk_T s) : zk_T U := fun w hw a => zk_good_warm hW (zk_good_all w hw) (h w hw) a
def zk_K (D : va_G) (dA : Nat → ClassId) (U : State) : Prop := va_K D vwCl (zk_tys dA) U ∧ zk_T U
theorem zk_K_warm {D : va_G} {dA : Nat → ClassId} {s U : State} (hW : s.WarmedH U.vm) (h : zk_K D dA s) : zk_K D dA U := ⟨va_K.moved hW.alike h.1, zk_T_warm hW h.2⟩
/-- what stands fast in a method's walk -/
def zk_C (p : Program) (s : State) (m : MethodId) (meth : Method) (c : Code) (cc : ByteArray) (nL : Nat) (own nm : String) (ret : Option FieldType) (D : va_G) (dA : Nat → ClassId) (base sz : Nat) : Prop :=
  p.tables.exec = Jvm.exec ∧ c.code = cc ∧ c.maxLocals = nL ∧ s.vm.findClass own = some m.cls ∧ zk_K D dA s ∧ s.heap.size = base + sz ∧ meth.locks = false ∧ meth.sig.returnType = ret ∧ meth.name = nm
/-- the machine at pc, with locals ll, stack st, heap h, comes to Q -/
def zk_V (p : Program) (l : Launch) (e : Env) (R : Room) (s : State) (m : MethodId) (args : Array Value) (below : List Frame) (meth : Method) (c : Code) (nL : Nat) (D : va_G) (dA : Nat → ClassId) (b base : Nat) (Q : State → Prop) (kc ks pc : Nat) (ll : List (Option Value)) (st : List Value) (h : zk_H) : Prop :=
  ∀ (H : Heap) (locs : List Loc) (ls : Array Slot), zk_l b base ls nL ll → va_P D vwCl (zk_w dA b base h) H → H.size = base + h.length → va_S (fun q : Nat => base ≤ q) s.heap H locs → W p l e R s m args below meth c H locs kc ks Q (F0 m pc ls (st.map (zk_v b base)))
/-- a method's contract: from these arguments and this heap it returns, and K holds of its answer and of the heap -/
def zk_P (D : va_G) (dA : Nat → ClassId) (b base : Nat) (as : List Value) (h : zk_H) : Array Value → State → Prop := fun v U => v = (as.map (zk_v b base)).toArray ∧ va_P D vwCl (zk_w dA b base h) U.heap ∧ U.heap.size = base + h.length ∧ zk_K D dA U
def zk_Q (K : Option Value → zk_H → Prop) (D : va_G) (dA : Nat → ClassId) (b base : Nat) : Array Value → State → Outcome → State → Prop := fun _ st o t => (∃ (r : Option Value) (h : zk_H), o = .returned (r.map (zk_v b base)) ∧ K r h ∧ va_P D vwCl (zk_w dA b base h) t.heap ∧ t.heap.size = base + h.length) ∧ va_F (fun q : Nat => base ≤ q) st t
def zk_S (l : Launch) (y : MethodName) (bytes : ByteArray) (maxL : Nat) (ret : Option FieldType) (rm : Room) (as : List Value) (h : zk_H) (K : Option Value → zk_H → Prop) : Prop :=
  ∀ (D : va_G) (dA : Nat → ClassId) (b base : Nat), Met l y [.code y bytes maxL ret] rm (zk_P D dA b base as h) (zk_Q K D dA b base) rm.cells rm.slots (fun q : Nat => base ≤ q)
theorem zk_P_blind {D : va_G} {dA : Nat → ClassId} {b base : Nat} {as : List Value} {h : zk_H} : FrameBlind (zk_P D dA b base as h) := fun a U g mk q => by
  obtain ⟨q0, q1, q2, q3⟩ := q
  exact ⟨q0, q1, q2, zk_K_warm (s := U) (U := U.calling g mk a) (State.WarmedH.refl U) q3⟩
def zk_ent : List Value → List (Option Value)
  | [] => []
  | v :: l => if v.category = 2 then some v :: none :: zk_ent l else some v :: zk_ent l
theorem zk_ent_args (b base : Nat) : ∀ (as : List Value) (k i : Nat) (v : Value), (zk_ent as)[i]? = some (some v) → (k + i, zk_v b base v) ∈ lv_args k (as.map (zk_v b base))
  | [], k, i, v, h => by simp [zk_ent] at h
  | a :: as, k, i, v, h => by
    have hc := zk_cat b base a
    unfold zk_ent at h
    rw [List.map_cons]
    unfold lv_args
    by_cases h2 : a.category = 2
    · rw [if_pos h2] at h
      rw [h2] at hc
      rw [if_pos hc]
      cases i with
      | zero => simp at h; subst h; exact List.mem_cons_self
      | succ i =>
        cases i with
        | zero => simp at h
        | succ i =>
          have h3 : (zk_ent as)[i]? = some (some v) := by simpa using h
          have h4 := zk_ent_args b base as (k + 2) i v h3
          refine List.mem_cons_of_mem _ ?_
          rw [show k + (i + 1 + 1) = k + 2 + i by omega]
          exact h4
    · rw [if_neg h2] at h
      rw [if_neg (by rw [hc]; exact h2)]
      cases i with
      | zero => simp at h; subst h; exact List.mem_cons_self
      | succ i =>
        have h3 : (zk_ent as)[i]? = some (some v) := by simpa using h
        have h4 := zk_ent_args b base as (k + 1) i v h3
        refine List.mem_cons_of_mem _ ?_
        rw [show k + (i + 1) = k + 1 + i by omega]
        exact h4
theorem zk_sl_len (b base : Nat) : ∀ as : List Value, (lg_sl (as.map (zk_v b base))).length = (lg_sl as).length
  | [] => rfl
  | a :: as => by
    have ih := zk_sl_len b base as
    unfold lg_sl at ih ⊢
    rw [List.map_cons, List.flatMap_cons, List.flatMap_cons, List.length_append, List.length_append, ih, zk_cat]
    by_cases h2 : a.category = 2
    · rw [if_pos h2, if_pos h2]; rfl
    · rw [if_neg h2, if_neg h2]; rfl
def zk_push (r : Option Value) (rest : List Value) : List Value := match r with
  | none => rest
  | some v => v :: rest
/-- a contract, out of the walk of the method's body from its entry -/
theorem zk_S_of {l : Launch} {y : MethodName} {bytes : ByteArray} {maxL : Nat} {ret : Option FieldType} {rm : Room} {as : List Value} {h : zk_H} {K : Option Value → zk_H → Prop} (own nm : String) (hy : plainName y.cls = true) (how : y.cls = own) (hnm : y.name = nm) (ll0 : List (Option Value)) (k : Nat) (hll : zk_ent as ++ List.replicate k none = ll0) (hlen : (lg_sl as).length ≤ maxL)
    (body : ∀ (p : Program) (e : Env) (s : State) (m : MethodId) (args : Array Value) (below : List Frame) (meth : Method) (c : Code) (D : va_G) (dA : Nat → ClassId) (b base : Nat), zk_C p s m meth c bytes maxL own nm ret D dA base h.length → zk_V p l e rm s m args below meth c maxL D dA b base (MQ below (zk_Q K D dA b base) args s rm.cells rm.slots (fun q : Nat => base ≤ q)) 0 0 0 ll0 [] h) : zk_S l y bytes maxL ret rm as h K := by
  intro D dA b base
  refine Met.ofW (cc := bytes) (maxL := maxL) (ret := ret) hy rfl ?_
  intro p e s m args below meth c s₁ B hml hv
  obtain ⟨rfl, hP, hz, hK⟩ := hv
  have C : zk_C p s m meth c bytes maxL own nm ret D dA base h.length := ⟨B.exec, B.bytes, hml, by rw [← how]; exact findClass_of_methodNamed B.named, hK, hz, B.notSynchronized, B.returns, by rw [← hnm]; exact (name_of_methodNamed B.named B.method).1⟩
  have hl := lv_entry (as.map (zk_v b base)) (n := maxL) (by rw [zk_sl_len]; exact hlen)
  rw [lg_entry_eq]
  refine body p e s m _ below meth c D dA b base C s.heap [] _ ?_ hP hz va_S.rf
  refine ⟨hl.1, hl.2.1, fun i v hi => ?_⟩
  have h1 : (zk_ent as)[i]? = some (some v) := by
    rw [← hll] at hi
    by_cases hlt : i < (zk_ent as).length
    · rw [List.getElem?_append_left hlt] at hi
      exact hi
    · rw [List.getElem?_append_right (by omega)] at hi
      have h2 := List.eq_of_mem_replicate (List.mem_of_getElem? hi)
      cases h2
  have h3 := hl.2.2 _ (zk_ent_args b base as 0 i v h1)
  rw [Nat.zero_add] at h3
  exact h3
def zk_b (c : Bool) : Int32 := match c with
  | true => nI 1
  | false => nI 0
theorem zk_bz {c : Bool} (h : zk_b c = 0) : c = false := by
  cases c with
  | false => rfl
  | true => exact absurd h (by decide)
theorem zk_bn {c : Bool} (h : ¬ zk_b c = 0) : c = true := by
  cases c with
  | false => exact absurd (by decide) h
  | true => rfl
theorem zk_nb (c : Bool) : narrow .boolean (.int (zk_b c)) = .int (zk_b c) := by cases c <;> decide
theorem zk_g1 {h : zk_H} {i j : Nat} {x : zk_E} {y : Option zk_E} (hne : i ≠ j) (hh : h[j]? = y) : (h.set i x)[j]? = y := by rw [List.getElem?_set_ne hne]; exact hh
theorem zk_g0 {h : zk_H} {i : Nat} {x y : zk_E} (hh : h[i]? = some y) : (h.set i x)[i]? = some x := List.getElem?_set_self (List.getElem?_eq_some_iff.mp hh).1
section ZR
variable {p : Program} {l : Launch} {e : Env} {R : Room} {s : State} {m : MethodId} {args : Array Value} {below : List Frame} {meth : Method} {c : Code} {cc : ByteArray} {nL : Nat} {own nm : String} {ret : Option FieldType} {D : va_G} {dA : Nat → ClassId} {b base sz : Nat} {Q : State → Prop} {kc ks pc : Nat} {ll : List (Option Value)} {st : List Value} {h : zk_H}
theorem zk_T_at {s : State} {args : Array Value} {D : va_G} {dA : Nat → ClassId} (hK : zk_K D dA s) : ∀ w ∈ zk_tb, w.before args s = true := fun w hw => hK.2 w hw args
theorem zr_iconst (C : zk_C p s m meth c cc nL own nm ret D dA base sz) {i : Int} {v : Int32} (hd : decode cc pc = .ok (.iconst i, 1)) {n : Nat} (hn : pc + 1 = n) (hv : Int32.ofInt i = v) (k : zk_V p l e R s m args below meth c nL D dA b base Q kc ks n ll (.int v :: st) h) : zk_V p l e R s m args below meth c nL D dA b base Q kc ks pc ll st h := by
  subst hn
  exact fun H locs ls hl hP hz hS => lv_iconst C.1 C.2.1 hd hv (k H locs ls hl hP hz hS)
theorem zr_bipush (C : zk_C p s m meth c cc nL own nm ret D dA base sz) {i : Int} {v : Int32} (hd : decode cc pc = .ok (.bipush i, 2)) {n : Nat} (hn : pc + 2 = n) (hv : (Int8.ofInt i).toInt32 = v) (k : zk_V p l e R s m args below meth c nL D dA b base Q kc ks n ll (.int v :: st) h) : zk_V p l e R s m args below meth c nL D dA b base Q kc ks pc ll st h := by
  subst hn
  exact fun H locs ls hl hP hz hS => lv_bipush C.1 C.2.1 hd hv (k H locs ls hl hP hz hS)
theorem zr_sipush (C : zk_C p s m meth c cc nL own nm ret D dA base sz) {i : Int} {v : Int32} (hd : decode cc pc = .ok (.sipush i, 3)) {n : Nat} (hn : pc + 3 = n) (hv : (Int16.ofInt i).toInt32 = v) (k : zk_V p l e R s m args below meth c nL D dA b base Q kc ks n ll (.int v :: st) h) : zk_V p l e R s m args below meth c nL D dA b base Q kc ks pc ll st h := by
  subst hn
  exact fun H locs ls hl hP hz hS => lv_sipush C.1 C.2.1 hd hv (k H locs ls hl hP hz hS)
theorem zr_dconst0 (C : zk_C p s m meth c cc nL own nm ret D dA base sz)  (hd : decode cc pc = .ok (.dconst 0, 1)) {n : Nat} (hn : pc + 1 = n)  (k : zk_V p l e R s m args below meth c nL D dA b base Q kc ks n ll (.double FP.dconst0 :: st) h) : zk_V p l e R s m args below meth c nL D dA b base Q kc ks pc ll st h := by
  subst hn
  exact fun H locs ls hl hP hz hS => lv_dconst0 C.1 C.2.1 hd (k H locs ls hl hP hz hS)
theorem zr_dconst1 (C : zk_C p s m meth c cc nL own nm ret D dA base sz)  (hd : decode cc pc = .ok (.dconst 1, 1)) {n : Nat} (hn : pc + 1 = n)  (k : zk_V p l e R s m args below meth c nL D dA b base Q kc ks n ll (.double FP.dconst1 :: st) h) : zk_V p l e R s m args below meth c nL D dA b base Q kc ks pc ll st h := by
  subst hn
  exact fun H locs ls hl hP hz hS => lv_dconst1 C.1 C.2.1 hd (k H locs ls hl hP hz hS)
theorem zr_iload_n (C : zk_C p s m meth c cc nL own nm ret D dA base sz) {k0 : Fin 4} {x : Int32} (hd : decode cc pc = .ok (.iload_n k0, 1)) {n : Nat} (hn : pc + 1 = n) (hx : ll[(k0 : Nat)]? = some (some (.int x))) (k : zk_V p l e R s m args below meth c nL D dA b base Q kc ks n ll (.int x :: st) h) : zk_V p l e R s m args below meth c nL D dA b base Q kc ks pc ll st h := by
  subst hn
  exact fun H locs ls hl hP hz hS => lv_iload_n C.1 C.2.1 hd rfl (hl.2.2 _ _ hx) (k H locs ls hl hP hz hS)
theorem zr_iload (C : zk_C p s m meth c cc nL own nm ret D dA base sz) {k0 : Nat} {x : Int32} (hd : decode cc pc = .ok (.iload k0, 2)) {n : Nat} (hn : pc + 2 = n) (hx : ll[k0]? = some (some (.int x))) (k : zk_V p l e R s m args below meth c nL D dA b base Q kc ks n ll (.int x :: st) h) : zk_V p l e R s m args below meth c nL D dA b base Q kc ks pc ll st h := by
  subst hn
  exact fun H locs ls hl hP hz hS => lv_iload C.1 C.2.1 hd (hl.2.2 _ _ hx) (k H locs ls hl hP hz hS)
theorem zr_dload_n (C : zk_C p s m meth c cc nL own nm ret D dA base sz) {k0 : Fin 4} {x : UInt64} (hd : decode cc pc = .ok (.dload_n k0, 1)) {n : Nat} (hn : pc + 1 = n) (hx : ll[(k0 : Nat)]? = some (some (.double x))) (k : zk_V p l e R s m args below meth c nL D dA b base Q kc ks n ll (.double x :: st) h) : zk_V p l e R s m args below meth c nL D dA b base Q kc ks pc ll st h := by
  subst hn
  exact fun H locs ls hl hP hz hS => lv_dload_n C.1 C.2.1 hd rfl (hl.2.2 _ _ hx) (k H locs ls hl hP hz hS)
theorem zr_dload (C : zk_C p s m meth c cc nL own nm ret D dA base sz) {k0 : Nat} {x : UInt64} (hd : decode cc pc = .ok (.dload k0, 2)) {n : Nat} (hn : pc + 2 = n) (hx : ll[k0]? = some (some (.double x))) (k : zk_V p l e R s m args below meth c nL D dA b base Q kc ks n ll (.double x :: st) h) : zk_V p l e R s m args below meth c nL D dA b base Q kc ks pc ll st h := by
  subst hn
  exact fun H locs ls hl hP hz hS => lv_dload C.1 C.2.1 hd (hl.2.2 _ _ hx) (k H locs ls hl hP hz hS)
theorem zr_aload_n (C : zk_C p s m meth c cc nL own nm ret D dA base sz) {k0 : Fin 4} {x : Nat} (hd : decode cc pc = .ok (.aload_n k0, 1)) {n : Nat} (hn : pc + 1 = n) (hx : ll[(k0 : Nat)]? = some (some (.ref x))) (k : zk_V p l e R s m args below meth c nL D dA b base Q kc ks n ll (.ref x :: st) h) : zk_V p l e R s m args below meth c nL D dA b base Q kc ks pc ll st h := by
  subst hn
  exact fun H locs ls hl hP hz hS => lv_aload_n C.1 C.2.1 hd rfl (hl.2.2 _ _ hx) (k H locs ls hl hP hz hS)
theorem zr_aload (C : zk_C p s m meth c cc nL own nm ret D dA base sz) {k0 : Nat} {x : Nat} (hd : decode cc pc = .ok (.aload k0, 2)) {n : Nat} (hn : pc + 2 = n) (hx : ll[k0]? = some (some (.ref x))) (k : zk_V p l e R s m args below meth c nL D dA b base Q kc ks n ll (.ref x :: st) h) : zk_V p l e R s m args below meth c nL D dA b base Q kc ks pc ll st h := by
  subst hn
  exact fun H locs ls hl hP hz hS => lv_aload C.1 C.2.1 hd (hl.2.2 _ _ hx) (k H locs ls hl hP hz hS)
theorem zr_iadd (C : zk_C p s m meth c cc nL own nm ret D dA base sz) {x y : Int32} (hd : decode cc pc = .ok (.iadd, 1)) {n : Nat} (hn : pc + 1 = n)  (k : zk_V p l e R s m args below meth c nL D dA b base Q kc ks n ll (.int (x + y) :: st) h) : zk_V p l e R s m args below meth c nL D dA b base Q kc ks pc ll (.int y :: .int x :: st) h := by
  subst hn
  exact fun H locs ls hl hP hz hS => lv_iadd C.1 C.2.1 hd (k H locs ls hl hP hz hS)
theorem zr_isub (C : zk_C p s m meth c cc nL own nm ret D dA base sz) {x y : Int32} (hd : decode cc pc = .ok (.isub, 1)) {n : Nat} (hn : pc + 1 = n)  (k : zk_V p l e R s m args below meth c nL D dA b base Q kc ks n ll (.int (x - y) :: st) h) : zk_V p l e R s m args below meth c nL D dA b base Q kc ks pc ll (.int y :: .int x :: st) h := by
  subst hn
  exact fun H locs ls hl hP hz hS => lv_isub C.1 C.2.1 hd (k H locs ls hl hP hz hS)
theorem zr_imul (C : zk_C p s m meth c cc nL own nm ret D dA base sz) {x y : Int32} (hd : decode cc pc = .ok (.imul, 1)) {n : Nat} (hn : pc + 1 = n)  (k : zk_V p l e R s m args below meth c nL D dA b base Q kc ks n ll (.int (x * y) :: st) h) : zk_V p l e R s m args below meth c nL D dA b base Q kc ks pc ll (.int y :: .int x :: st) h := by
  subst hn
  exact fun H locs ls hl hP hz hS => lv_imul C.1 C.2.1 hd (k H locs ls hl hP hz hS)
theorem zr_iand (C : zk_C p s m meth c cc nL own nm ret D dA base sz) {x y : Int32} (hd : decode cc pc = .ok (.iand, 1)) {n : Nat} (hn : pc + 1 = n)  (k : zk_V p l e R s m args below meth c nL D dA b base Q kc ks n ll (.int (x &&& y) :: st) h) : zk_V p l e R s m args below meth c nL D dA b base Q kc ks pc ll (.int y :: .int x :: st) h := by
  subst hn
  exact fun H locs ls hl hP hz hS => lv_iand C.1 C.2.1 hd (k H locs ls hl hP hz hS)
theorem zr_ior (C : zk_C p s m meth c cc nL own nm ret D dA base sz) {x y : Int32} (hd : decode cc pc = .ok (.ior, 1)) {n : Nat} (hn : pc + 1 = n)  (k : zk_V p l e R s m args below meth c nL D dA b base Q kc ks n ll (.int (x ||| y) :: st) h) : zk_V p l e R s m args below meth c nL D dA b base Q kc ks pc ll (.int y :: .int x :: st) h := by
  subst hn
  exact fun H locs ls hl hP hz hS => lv_ior C.1 C.2.1 hd (k H locs ls hl hP hz hS)
theorem zr_ixor (C : zk_C p s m meth c cc nL own nm ret D dA base sz) {x y : Int32} (hd : decode cc pc = .ok (.ixor, 1)) {n : Nat} (hn : pc + 1 = n)  (k : zk_V p l e R s m args below meth c nL D dA b base Q kc ks n ll (.int (x ^^^ y) :: st) h) : zk_V p l e R s m args below meth c nL D dA b base Q kc ks pc ll (.int y :: .int x :: st) h := by
  subst hn
  exact fun H locs ls hl hP hz hS => lv_ixor C.1 C.2.1 hd (k H locs ls hl hP hz hS)
theorem zr_ishl (C : zk_C p s m meth c cc nL own nm ret D dA base sz) {x y : Int32} (hd : decode cc pc = .ok (.ishl, 1)) {n : Nat} (hn : pc + 1 = n)  (k : zk_V p l e R s m args below meth c nL D dA b base Q kc ks n ll (.int (x <<< (y &&& 31)) :: st) h) : zk_V p l e R s m args below meth c nL D dA b base Q kc ks pc ll (.int y :: .int x :: st) h := by
  subst hn
  exact fun H locs ls hl hP hz hS => lv_ishl C.1 C.2.1 hd (k H locs ls hl hP hz hS)
theorem zr_ishr (C : zk_C p s m meth c cc nL own nm ret D dA base sz) {x y : Int32} (hd : decode cc pc = .ok (.ishr, 1)) {n : Nat} (hn : pc + 1 = n)  (k : zk_V p l e R s m args below meth c nL D dA b base Q kc ks n ll (.int (x >>> (y &&& 31)) :: st) h) : zk_V p l e R s m args below meth c nL D dA b base Q kc ks pc ll (.int y :: .int x :: st) h := by
  subst hn
  exact fun H locs ls hl hP hz hS => lv_ishr C.1 C.2.1 hd (k H locs ls hl hP hz hS)
theorem zr_idiv (C : zk_C p s m meth c cc nL own nm ret D dA base sz) {x y : Int32} (hd : decode cc pc = .ok (.idiv, 1)) {n : Nat} (hn : pc + 1 = n) (hne : ¬ y = 0) (k : zk_V p l e R s m args below meth c nL D dA b base Q kc ks n ll (.int (x / y) :: st) h) : zk_V p l e R s m args below meth c nL D dA b base Q kc ks pc ll (.int y :: .int x :: st) h := by
  subst hn
  exact fun H locs ls hl hP hz hS => lv_idiv C.1 C.2.1 hd hne (k H locs ls hl hP hz hS)
theorem zr_irem (C : zk_C p s m meth c cc nL own nm ret D dA base sz) {x y : Int32} (hd : decode cc pc = .ok (.irem, 1)) {n : Nat} (hn : pc + 1 = n) (hne : ¬ y = 0) (k : zk_V p l e R s m args below meth c nL D dA b base Q kc ks n ll (.int (x - x / y * y) :: st) h) : zk_V p l e R s m args below meth c nL D dA b base Q kc ks pc ll (.int y :: .int x :: st) h := by
  subst hn
  exact fun H locs ls hl hP hz hS => lv_irem C.1 C.2.1 hd hne (k H locs ls hl hP hz hS)
theorem zr_ineg (C : zk_C p s m meth c cc nL own nm ret D dA base sz) {x : Int32} (hd : decode cc pc = .ok (.ineg, 1)) {n : Nat} (hn : pc + 1 = n)  (k : zk_V p l e R s m args below meth c nL D dA b base Q kc ks n ll (.int (-x) :: st) h) : zk_V p l e R s m args below meth c nL D dA b base Q kc ks pc ll (.int x :: st) h := by
  subst hn
  exact fun H locs ls hl hP hz hS => lv_ineg C.1 C.2.1 hd (k H locs ls hl hP hz hS)
theorem zr_i2d (C : zk_C p s m meth c cc nL own nm ret D dA base sz) {x : Int32} (hd : decode cc pc = .ok (.i2d, 1)) {n : Nat} (hn : pc + 1 = n)  (k : zk_V p l e R s m args below meth c nL D dA b base Q kc ks n ll (.double (FP.i2d x) :: st) h) : zk_V p l e R s m args below meth c nL D dA b base Q kc ks pc ll (.int x :: st) h := by
  subst hn
  exact fun H locs ls hl hP hz hS => lv_i2d C.1 C.2.1 hd (k H locs ls hl hP hz hS)
theorem zr_dmul (C : zk_C p s m meth c cc nL own nm ret D dA base sz) {x y : UInt64} (hd : decode cc pc = .ok (.dmul, 1)) {n : Nat} (hn : pc + 1 = n) (hne : vf_n64 (FP.dmul x y)) (k : zk_V p l e R s m args below meth c nL D dA b base Q kc ks n ll (.double (FP.dmul x y) :: st) h) : zk_V p l e R s m args below meth c nL D dA b base Q kc ks pc ll (.double y :: .double x :: st) h := by
  subst hn
  exact fun H locs ls hl hP hz hS => lv_dmul C.1 C.2.1 hd hne (k H locs ls hl hP hz hS)
theorem zr_ddiv (C : zk_C p s m meth c cc nL own nm ret D dA base sz) {x y : UInt64} (hd : decode cc pc = .ok (.ddiv, 1)) {n : Nat} (hn : pc + 1 = n) (hne : vf_n64 (FP.ddiv x y)) (k : zk_V p l e R s m args below meth c nL D dA b base Q kc ks n ll (.double (FP.ddiv x y) :: st) h) : zk_V p l e R s m args below meth c nL D dA b base Q kc ks pc ll (.double y :: .double x :: st) h := by
  subst hn
  exact fun H locs ls hl hP hz hS => lv_ddiv C.1 C.2.1 hd hne (k H locs ls hl hP hz hS)
theorem zr_dcmp (C : zk_C p s m meth c cc nL own nm ret D dA base sz) {x y : UInt64} {op : CmpOp} (hd : decode cc pc = .ok (.dcmp op, 1)) {n : Nat} (hn : pc + 1 = n)  (k : zk_V p l e R s m args below meth c nL D dA b base Q kc ks n ll (.int (Op.cmpValue (FP.dcmp x y) op) :: st) h) : zk_V p l e R s m args below meth c nL D dA b base Q kc ks pc ll (.double y :: .double x :: st) h := by
  subst hn
  exact fun H locs ls hl hP hz hS => lv_dcmp C.1 C.2.1 hd (k H locs ls hl hP hz hS)
theorem zr_dup (C : zk_C p s m meth c cc nL own nm ret D dA base sz) {va : Value} (hd : decode cc pc = .ok (.dup, 1)) {n : Nat} (hn : pc + 1 = n) (hva : va.category = 1) (k : zk_V p l e R s m args below meth c nL D dA b base Q kc ks n ll (va :: va :: st) h) : zk_V p l e R s m args below meth c nL D dA b base Q kc ks pc ll (va :: st) h := by
  subst hn
  exact fun H locs ls hl hP hz hS => lv_dup C.1 C.2.1 hd (by rw [zk_cat]; exact hva) (k H locs ls hl hP hz hS)
theorem zr_pop (C : zk_C p s m meth c cc nL own nm ret D dA base sz) {va : Value} (hd : decode cc pc = .ok (.pop, 1)) {n : Nat} (hn : pc + 1 = n) (hva : va.category = 1) (k : zk_V p l e R s m args below meth c nL D dA b base Q kc ks n ll st h) : zk_V p l e R s m args below meth c nL D dA b base Q kc ks pc ll (va :: st) h := by
  subst hn
  exact fun H locs ls hl hP hz hS => lv_pop C.1 C.2.1 hd (by rw [zk_cat]; exact hva) (k H locs ls hl hP hz hS)
theorem zr_dup_x1 (C : zk_C p s m meth c cc nL own nm ret D dA base sz) {va vb : Value} (hd : decode cc pc = .ok (.dup_x1, 1)) {n : Nat} (hn : pc + 1 = n) (hva : va.category = 1) (hvb : vb.category = 1) (k : zk_V p l e R s m args below meth c nL D dA b base Q kc ks n ll (va :: vb :: va :: st) h) : zk_V p l e R s m args below meth c nL D dA b base Q kc ks pc ll (va :: vb :: st) h := by
  subst hn
  exact fun H locs ls hl hP hz hS => lv_dup_x1 C.1 C.2.1 hd (by rw [zk_cat]; exact hva) (by rw [zk_cat]; exact hvb) (k H locs ls hl hP hz hS)
theorem zr_dup2 (C : zk_C p s m meth c cc nL own nm ret D dA base sz) {va vb : Value} (hd : decode cc pc = .ok (.dup2, 1)) {n : Nat} (hn : pc + 1 = n) (hva : va.category = 1) (hvb : vb.category = 1) (k : zk_V p l e R s m args below meth c nL D dA b base Q kc ks n ll (va :: vb :: va :: vb :: st) h) : zk_V p l e R s m args below meth c nL D dA b base Q kc ks pc ll (va :: vb :: st) h := by
  subst hn
  exact fun H locs ls hl hP hz hS => lv_dup2_11 C.1 C.2.1 hd (by rw [zk_cat]; exact hva) (by rw [zk_cat]; exact hvb) (k H locs ls hl hP hz hS)
theorem zr_icmp_eq (C : zk_C p s m meth c cc nL own nm ret D dA base sz) {x y : Int32} {off : Int} {t : Nat} (hd : decode cc pc = .ok (.if_icmp .eq off, 3)) {n : Nat} (hn : pc + 3 = n) (ht : (pc : Int) + off = (t : Int)) (kt : (x = y) → zk_V p l e R s m args below meth c nL D dA b base Q kc ks t ll st h) (kf : ¬ (x = y) → zk_V p l e R s m args below meth c nL D dA b base Q kc ks n ll st h) : zk_V p l e R s m args below meth c nL D dA b base Q kc ks pc ll (.int y :: .int x :: st) h := by
  subst hn
  exact fun H locs ls hl hP hz hS => lv_icmp_eq C.1 C.2.1 hd ht (fun hq => kt hq H locs ls hl hP hz hS) (fun hq => kf hq H locs ls hl hP hz hS)
theorem zr_icmp_ne (C : zk_C p s m meth c cc nL own nm ret D dA base sz) {x y : Int32} {off : Int} {t : Nat} (hd : decode cc pc = .ok (.if_icmp .ne off, 3)) {n : Nat} (hn : pc + 3 = n) (ht : (pc : Int) + off = (t : Int)) (kt : (¬ x = y) → zk_V p l e R s m args below meth c nL D dA b base Q kc ks t ll st h) (kf : (x = y) → zk_V p l e R s m args below meth c nL D dA b base Q kc ks n ll st h) : zk_V p l e R s m args below meth c nL D dA b base Q kc ks pc ll (.int y :: .int x :: st) h := by
  subst hn
  exact fun H locs ls hl hP hz hS => lv_icmp_ne C.1 C.2.1 hd ht (fun hq => kt hq H locs ls hl hP hz hS) (fun hq => kf hq H locs ls hl hP hz hS)
theorem zr_icmp_lt (C : zk_C p s m meth c cc nL own nm ret D dA base sz) {x y : Int32} {off : Int} {t : Nat} (hd : decode cc pc = .ok (.if_icmp .lt off, 3)) {n : Nat} (hn : pc + 3 = n) (ht : (pc : Int) + off = (t : Int)) (kt : (x < y) → zk_V p l e R s m args below meth c nL D dA b base Q kc ks t ll st h) (kf : ¬ (x < y) → zk_V p l e R s m args below meth c nL D dA b base Q kc ks n ll st h) : zk_V p l e R s m args below meth c nL D dA b base Q kc ks pc ll (.int y :: .int x :: st) h := by
  subst hn
  exact fun H locs ls hl hP hz hS => lv_icmp_lt C.1 C.2.1 hd ht (fun hq => kt hq H locs ls hl hP hz hS) (fun hq => kf hq H locs ls hl hP hz hS)
theorem zr_icmp_ge (C : zk_C p s m meth c cc nL own nm ret D dA base sz) {x y : Int32} {off : Int} {t : Nat} (hd : decode cc pc = .ok (.if_icmp .ge off, 3)) {n : Nat} (hn : pc + 3 = n) (ht : (pc : Int) + off = (t : Int)) (kt : (y ≤ x) → zk_V p l e R s m args below meth c nL D dA b base Q kc ks t ll st h) (kf : ¬ (y ≤ x) → zk_V p l e R s m args below meth c nL D dA b base Q kc ks n ll st h) : zk_V p l e R s m args below meth c nL D dA b base Q kc ks pc ll (.int y :: .int x :: st) h := by
  subst hn
  exact fun H locs ls hl hP hz hS => lv_icmp_ge C.1 C.2.1 hd ht (fun hq => kt hq H locs ls hl hP hz hS) (fun hq => kf hq H locs ls hl hP hz hS)
theorem zr_icmp_gt (C : zk_C p s m meth c cc nL own nm ret D dA base sz) {x y : Int32} {off : Int} {t : Nat} (hd : decode cc pc = .ok (.if_icmp .gt off, 3)) {n : Nat} (hn : pc + 3 = n) (ht : (pc : Int) + off = (t : Int)) (kt : (y < x) → zk_V p l e R s m args below meth c nL D dA b base Q kc ks t ll st h) (kf : ¬ (y < x) → zk_V p l e R s m args below meth c nL D dA b base Q kc ks n ll st h) : zk_V p l e R s m args below meth c nL D dA b base Q kc ks pc ll (.int y :: .int x :: st) h := by
  subst hn
  exact fun H locs ls hl hP hz hS => lv_icmp_gt C.1 C.2.1 hd ht (fun hq => kt hq H locs ls hl hP hz hS) (fun hq => kf hq H locs ls hl hP hz hS)
theorem zr_icmp_le (C : zk_C p s m meth c cc nL own nm ret D dA base sz) {x y : Int32} {off : Int} {t : Nat} (hd : decode cc pc = .ok (.if_icmp .le off, 3)) {n : Nat} (hn : pc + 3 = n) (ht : (pc : Int) + off = (t : Int)) (kt : (x ≤ y) → zk_V p l e R s m args below meth c nL D dA b base Q kc ks t ll st h) (kf : ¬ (x ≤ y) → zk_V p l e R s m args below meth c nL D dA b base Q kc ks n ll st h) : zk_V p l e R s m args below meth c nL D dA b base Q kc ks pc ll (.int y :: .int x :: st) h := by
  subst hn
  exact fun H locs ls hl hP hz hS => lv_icmp_le C.1 C.2.1 hd ht (fun hq => kt hq H locs ls hl hP hz hS) (fun hq => kf hq H locs ls hl hP hz hS)
theorem zr_if_eq (C : zk_C p s m meth c cc nL own nm ret D dA base sz) {x : Int32} {off : Int} {t : Nat} (hd : decode cc pc = .ok (.ifCond .eq off, 3)) {n : Nat} (hn : pc + 3 = n) (ht : (pc : Int) + off = (t : Int)) (kt : (x = 0) → zk_V p l e R s m args below meth c nL D dA b base Q kc ks t ll st h) (kf : ¬ (x = 0) → zk_V p l e R s m args below meth c nL D dA b base Q kc ks n ll st h) : zk_V p l e R s m args below meth c nL D dA b base Q kc ks pc ll (.int x :: st) h := by
  subst hn
  exact fun H locs ls hl hP hz hS => lv_if_eq C.1 C.2.1 hd ht (fun hq => kt hq H locs ls hl hP hz hS) (fun hq => kf hq H locs ls hl hP hz hS)
theorem zr_if_ne (C : zk_C p s m meth c cc nL own nm ret D dA base sz) {x : Int32} {off : Int} {t : Nat} (hd : decode cc pc = .ok (.ifCond .ne off, 3)) {n : Nat} (hn : pc + 3 = n) (ht : (pc : Int) + off = (t : Int)) (kt : (¬ x = 0) → zk_V p l e R s m args below meth c nL D dA b base Q kc ks t ll st h) (kf : (x = 0) → zk_V p l e R s m args below meth c nL D dA b base Q kc ks n ll st h) : zk_V p l e R s m args below meth c nL D dA b base Q kc ks pc ll (.int x :: st) h := by
  subst hn
  exact fun H locs ls hl hP hz hS => lv_if_ne C.1 C.2.1 hd ht (fun hq => kt hq H locs ls hl hP hz hS) (fun hq => kf hq H locs ls hl hP hz hS)
theorem zr_if_lt (C : zk_C p s m meth c cc nL own nm ret D dA base sz) {x : Int32} {off : Int} {t : Nat} (hd : decode cc pc = .ok (.ifCond .lt off, 3)) {n : Nat} (hn : pc + 3 = n) (ht : (pc : Int) + off = (t : Int)) (kt : (x < 0) → zk_V p l e R s m args below meth c nL D dA b base Q kc ks t ll st h) (kf : ¬ (x < 0) → zk_V p l e R s m args below meth c nL D dA b base Q kc ks n ll st h) : zk_V p l e R s m args below meth c nL D dA b base Q kc ks pc ll (.int x :: st) h := by
  subst hn
  exact fun H locs ls hl hP hz hS => lv_if_lt C.1 C.2.1 hd ht (fun hq => kt hq H locs ls hl hP hz hS) (fun hq => kf hq H locs ls hl hP hz hS)
theorem zr_if_ge (C : zk_C p s m meth c cc nL own nm ret D dA base sz) {x : Int32} {off : Int} {t : Nat} (hd : decode cc pc = .ok (.ifCond .ge off, 3)) {n : Nat} (hn : pc + 3 = n) (ht : (pc : Int) + off = (t : Int)) (kt : (0 ≤ x) → zk_V p l e R s m args below meth c nL D dA b base Q kc ks t ll st h) (kf : ¬ (0 ≤ x) → zk_V p l e R s m args below meth c nL D dA b base Q kc ks n ll st h) : zk_V p l e R s m args below meth c nL D dA b base Q kc ks pc ll (.int x :: st) h := by
  subst hn
  exact fun H locs ls hl hP hz hS => lv_if_ge C.1 C.2.1 hd ht (fun hq => kt hq H locs ls hl hP hz hS) (fun hq => kf hq H locs ls hl hP hz hS)
theorem zr_if_gt (C : zk_C p s m meth c cc nL own nm ret D dA base sz) {x : Int32} {off : Int} {t : Nat} (hd : decode cc pc = .ok (.ifCond .gt off, 3)) {n : Nat} (hn : pc + 3 = n) (ht : (pc : Int) + off = (t : Int)) (kt : (0 < x) → zk_V p l e R s m args below meth c nL D dA b base Q kc ks t ll st h) (kf : ¬ (0 < x) → zk_V p l e R s m args below meth c nL D dA b base Q kc ks n ll st h) : zk_V p l e R s m args below meth c nL D dA b base Q kc ks pc ll (.int x :: st) h := by
  subst hn
  exact fun H locs ls hl hP hz hS => lv_if_gt C.1 C.2.1 hd ht (fun hq => kt hq H locs ls hl hP hz hS) (fun hq => kf hq H locs ls hl hP hz hS)
theorem zr_if_le (C : zk_C p s m meth c cc nL own nm ret D dA base sz) {x : Int32} {off : Int} {t : Nat} (hd : decode cc pc = .ok (.ifCond .le off, 3)) {n : Nat} (hn : pc + 3 = n) (ht : (pc : Int) + off = (t : Int)) (kt : (x ≤ 0) → zk_V p l e R s m args below meth c nL D dA b base Q kc ks t ll st h) (kf : ¬ (x ≤ 0) → zk_V p l e R s m args below meth c nL D dA b base Q kc ks n ll st h) : zk_V p l e R s m args below meth c nL D dA b base Q kc ks pc ll (.int x :: st) h := by
  subst hn
  exact fun H locs ls hl hP hz hS => lv_if_le C.1 C.2.1 hd ht (fun hq => kt hq H locs ls hl hP hz hS) (fun hq => kf hq H locs ls hl hP hz hS)
theorem zr_goto (C : zk_C p s m meth c cc nL own nm ret D dA base sz) {off : Int} {t : Nat} (hd : decode cc pc = .ok (.goto off, 3)) (ht : (pc : Int) + off = (t : Int)) (k : zk_V p l e R s m args below meth c nL D dA b base Q kc ks t ll st h) : zk_V p l e R s m args below meth c nL D dA b base Q kc ks pc ll st h := fun H locs ls hl hP hz hS => lv_goto C.1 C.2.1 hd ht (k H locs ls hl hP hz hS)
theorem zr_tableIn (C : zk_C p s m meth c cc nL own nm ret D dA base sz) {dflt lo hi : Int} {offs : Array Int} {len : Nat} {x : Int32} {off : Int} {t : Nat} (hd : decode cc pc = .ok (.tableswitch dflt lo hi offs, len)) (h1 : ¬ x.toInt < lo) (h2 : ¬ hi < x.toInt) (ho : offs[(x.toInt - lo).toNat]? = some off) (ht : (pc : Int) + off = (t : Int)) (k : zk_V p l e R s m args below meth c nL D dA b base Q kc ks t ll st h) : zk_V p l e R s m args below meth c nL D dA b base Q kc ks pc ll (.int x :: st) h := fun H locs ls hl hP hz hS => lv_tableIn C.1 C.2.1 hd h1 h2 ho ht (k H locs ls hl hP hz hS)
theorem zr_tableOut (C : zk_C p s m meth c cc nL own nm ret D dA base sz) {dflt lo hi : Int} {offs : Array Int} {len : Nat} {x : Int32} {t : Nat} (hd : decode cc pc = .ok (.tableswitch dflt lo hi offs, len)) (h1 : x.toInt < lo ∨ hi < x.toInt) (ht : (pc : Int) + dflt = (t : Int)) (k : zk_V p l e R s m args below meth c nL D dA b base Q kc ks t ll st h) : zk_V p l e R s m args below meth c nL D dA b base Q kc ks pc ll (.int x :: st) h := fun H locs ls hl hP hz hS => lv_tableOut C.1 C.2.1 hd h1 ht (k H locs ls hl hP hz hS)
theorem zr_topi {x : Int32} (k : ∀ y : Int32, y = x → zk_V p l e R s m args below meth c nL D dA b base Q kc ks pc ll (.int y :: st) h) : zk_V p l e R s m args below meth c nL D dA b base Q kc ks pc ll (.int x :: st) h := k x rfl
theorem zr_drop (i : Nat) (k : zk_V p l e R s m args below meth c nL D dA b base Q kc ks pc (ll.set i none) st h) : zk_V p l e R s m args below meth c nL D dA b base Q kc ks pc ll st h := fun H locs ls hl hP hz hS => k H locs ls (zk_l_drop i hl) hP hz hS
theorem zr_ldc2d (C : zk_C p s m meth c cc nL own nm ret D dA base sz) {idx : Nat} {v : UInt64} (hd : decode cc pc = .ok (.ldc2_w idx, 3)) {n : Nat} (hn : pc + 3 = n) (hw : Cond.constantDouble own idx v ∈ zk_tb) (k : zk_V p l e R s m args below meth c nL D dA b base Q kc ks n ll (.double v :: st) h) : zk_V p l e R s m args below meth c nL D dA b base Q kc ks pc ll st h := by
  subst hn
  exact fun H locs ls hl hP hz hS => lv_ldc2d C.1 C.2.1 C.2.2.2.1 (zk_T_at C.2.2.2.2.1 _ hw) hd (k H locs ls hl hP hz hS)
theorem zr_ldc (C : zk_C p s m meth c cc nL own nm ret D dA base sz) {idx : Nat} {v : Int32} (hd : decode cc pc = .ok (.ldc idx, 2)) {n : Nat} (hn : pc + 2 = n) (hw : Cond.constant own idx v ∈ zk_tb) (k : zk_V p l e R s m args below meth c nL D dA b base Q kc ks n ll (.int v :: st) h) : zk_V p l e R s m args below meth c nL D dA b base Q kc ks pc ll st h := by
  subst hn
  exact fun H locs ls hl hP hz hS => lv_ldc C.1 C.2.1 C.2.2.2.1 (zk_T_at C.2.2.2.2.1 _ hw) hd (k H locs ls hl hP hz hS)
theorem zr_toe {x y : Int32} (hxy : x = y) (k : zk_V p l e R s m args below meth c nL D dA b base Q kc ks pc ll (.int y :: st) h) : zk_V p l e R s m args below meth c nL D dA b base Q kc ks pc ll (.int x :: st) h := hxy ▸ k
theorem zr_istore_n (C : zk_C p s m meth c cc nL own nm ret D dA base sz) {k0 : Fin 4} {x : Int32} (hd : decode cc pc = .ok (.istore_n k0, 1)) {n : Nat} (hn : pc + 1 = n) (hi : (k0 : Nat) < nL) (hok : zk_ok ll (k0 : Nat) = true) (k : zk_V p l e R s m args below meth c nL D dA b base Q kc ks n (ll.set (k0 : Nat) (some (.int x))) st h) : zk_V p l e R s m args below meth c nL D dA b base Q kc ks pc ll (.int x :: st) h := by
  subst hn
  exact fun H locs ls hl hP hz hS => lv_istore_n C.1 C.2.1 hd rfl (zk_l_has hl) hi rfl (fun ls' hl' => k H locs ls' (zk_l_st1 (v := .int x) hok hl') hP hz hS)
theorem zr_istore (C : zk_C p s m meth c cc nL own nm ret D dA base sz) {k0 : Nat} {x : Int32} (hd : decode cc pc = .ok (.istore k0, 2)) {n : Nat} (hn : pc + 2 = n) (hi : k0 < nL) (hok : zk_ok ll k0 = true) (k : zk_V p l e R s m args below meth c nL D dA b base Q kc ks n (ll.set k0 (some (.int x))) st h) : zk_V p l e R s m args below meth c nL D dA b base Q kc ks pc ll (.int x :: st) h := by
  subst hn
  exact fun H locs ls hl hP hz hS => lv_istore C.1 C.2.1 hd (zk_l_has hl) hi rfl (fun ls' hl' => k H locs ls' (zk_l_st1 (v := .int x) hok hl') hP hz hS)
theorem zr_astore_n (C : zk_C p s m meth c cc nL own nm ret D dA base sz) {k0 : Fin 4} {x : Nat} (hd : decode cc pc = .ok (.astore_n k0, 1)) {n : Nat} (hn : pc + 1 = n) (hi : (k0 : Nat) < nL) (hok : zk_ok ll (k0 : Nat) = true) (k : zk_V p l e R s m args below meth c nL D dA b base Q kc ks n (ll.set (k0 : Nat) (some (.ref x))) st h) : zk_V p l e R s m args below meth c nL D dA b base Q kc ks pc ll (.ref x :: st) h := by
  subst hn
  exact fun H locs ls hl hP hz hS => lv_astore_n C.1 C.2.1 hd rfl (zk_l_has hl) hi rfl (fun ls' hl' => k H locs ls' (zk_l_st1 (v := .ref x) hok hl') hP hz hS)
theorem zr_astore (C : zk_C p s m meth c cc nL own nm ret D dA base sz) {k0 : Nat} {x : Nat} (hd : decode cc pc = .ok (.astore k0, 2)) {n : Nat} (hn : pc + 2 = n) (hi : k0 < nL) (hok : zk_ok ll k0 = true) (k : zk_V p l e R s m args below meth c nL D dA b base Q kc ks n (ll.set k0 (some (.ref x))) st h) : zk_V p l e R s m args below meth c nL D dA b base Q kc ks pc ll (.ref x :: st) h := by
  subst hn
  exact fun H locs ls hl hP hz hS => lv_astore C.1 C.2.1 hd (zk_l_has hl) hi rfl (fun ls' hl' => k H locs ls' (zk_l_st1 (v := .ref x) hok hl') hP hz hS)
theorem zr_dstore_n (C : zk_C p s m meth c cc nL own nm ret D dA base sz) {k0 : Fin 4} {x : UInt64} (hd : decode cc pc = .ok (.dstore_n k0, 1)) {n : Nat} (hn : pc + 1 = n) (hi : (k0 : Nat) + 1 < nL) (hok : zk_ok ll (k0 : Nat) = true) (k : zk_V p l e R s m args below meth c nL D dA b base Q kc ks n ((ll.set (k0 : Nat) (some (.double x))).set ((k0 : Nat) + 1) none) st h) : zk_V p l e R s m args below meth c nL D dA b base Q kc ks pc ll (.double x :: st) h := by
  subst hn
  exact fun H locs ls hl hP hz hS => lv_dstore_n C.1 C.2.1 hd rfl (zk_l_has hl) hi rfl (fun ls' hl' => k H locs ls' (zk_l_st2 (v := .double x) hok hl') hP hz hS)
theorem zr_dstore (C : zk_C p s m meth c cc nL own nm ret D dA base sz) {k0 : Nat} {x : UInt64} (hd : decode cc pc = .ok (.dstore k0, 2)) {n : Nat} (hn : pc + 2 = n) (hi : k0 + 1 < nL) (hok : zk_ok ll k0 = true) (k : zk_V p l e R s m args below meth c nL D dA b base Q kc ks n ((ll.set k0 (some (.double x))).set (k0 + 1) none) st h) : zk_V p l e R s m args below meth c nL D dA b base Q kc ks pc ll (.double x :: st) h := by
  subst hn
  exact fun H locs ls hl hP hz hS => lv_dstore C.1 C.2.1 hd (zk_l_has hl) hi rfl (fun ls' hl' => k H locs ls' (zk_l_st2 (v := .double x) hok hl') hP hz hS)
theorem zr_iinc (C : zk_C p s m meth c cc nL own nm ret D dA base sz) {k0 : Nat} {i : Int} {x w v : Int32} (hd : decode cc pc = .ok (.iinc k0 i, 3)) {n : Nat} (hn : pc + 3 = n) (hx : ll[k0]? = some (some (.int x))) (hw : Int32.ofInt i = w) (hv : x + w = v) (hi : k0 < nL) (hok : zk_ok ll k0 = true) (k : zk_V p l e R s m args below meth c nL D dA b base Q kc ks n (ll.set k0 (some (.int v))) st h) : zk_V p l e R s m args below meth c nL D dA b base Q kc ks pc ll st h := by
  subst hn
  intro H locs ls hl hP hz hS
  obtain ⟨j, hj⟩ := List.getElem?_of_mem (zk_ll_mem (b := b) (base := base) (q := (k0, .int x)).mpr ⟨.int x, hx, rfl⟩)
  exact lv_iinc (v := v) C.1 C.2.1 hd (zk_l_has hl) hj (by rw [hw]; exact hv) hi rfl (fun ls' hl' => k H locs ls' (zk_l_st1 (v := .int v) hok hl') hP hz hS)
def zk_F (own : String) (idx ci k : Nat) (Cn : String) (T : u_T) (N : Nat) : Prop := vwCl[ci]? = some (Cn, T, N) ∧ k < N ∧ Cond.fieldLink own idx Cn (T k).2.1 (T k).2.2.1 ∈ zk_tb ∧ (∀ w ∈ u_ws Cn T N, w ∈ zk_tb) ∧ (T k).1 = Cn
def zk_FN (own : String) (idx ci k : Nat) (Cn : String) (T : u_T) (N : Nat) (host : String) : Prop := vwCl[ci]? = some (Cn, T, N) ∧ k < N ∧ Cond.fieldLinkNest own idx Cn (T k).2.1 (T k).2.2.1 host ∈ zk_tb ∧ (∀ w ∈ u_ws Cn T N, w ∈ zk_tb) ∧ (T k).1 = Cn
def zk_Y (T : u_T) (N : Nat) (ty : Nat → FieldType) : Prop := (∀ k, k < N → parseFieldDescriptor (T k).2.2.1 = some (ty k)) ∧ (∀ a, a < N → ∀ b, b < N → a ≠ b → (T a).2.1 ≠ (T b).2.1)
theorem zk_map_get {b base : Nat} {fs : List Value} {k : Nat} {v : Value} (hv : fs[k]? = some v) : (fs.map (zk_v b base))[k]? = some (zk_v b base v) := by rw [List.getElem?_map, hv]; rfl
theorem zr_get (C : zk_C p s m meth c cc nL own nm ret D dA base sz) {idx ci k N : Nat} {Cn : String} {T : u_T} (F : zk_F own idx ci k Cn T N) (hd : decode cc pc = .ok (.getfield idx, 3)) {n : Nat} (hn : pc + 3 = n) {i : Nat} {fs : List Value} {v : Value} (hh : h[i]? = some (.inr (ci, fs))) (hv : fs[k]? = some v) (kk : zk_V p l e R s m args below meth c nL D dA b base Q kc ks n ll (v :: st) h) : zk_V p l e R s m args below meth c nL D dA b base Q kc ks pc ll (.ref (i + 1) :: st) h := by
  subst hn
  obtain ⟨f1, f2, f3, f4, f5⟩ := F
  obtain ⟨hx, hb, hml, hown, hK, hbs, hlk, hret, hnm⟩ := C
  exact fun H locs ls hl hP hz hS => va_get hx hb (zk_T_at hK) f4 hown hK.1 hP i (zk_w_get hh) f1 k f2 (zk_T_at hK _ f3) (fun x hx => by rw [f5] at hx; exact hx) (zk_map_get hv) hd (kk H locs ls hl hP hz hS)
theorem zr_getN (C : zk_C p s m meth c cc nL own nm ret D dA base sz) {idx ci k N : Nat} {Cn : String} {T : u_T} {host : String} (F : zk_FN own idx ci k Cn T N host) (hd : decode cc pc = .ok (.getfield idx, 3)) {n : Nat} (hn : pc + 3 = n) {i : Nat} {fs : List Value} {v : Value} (hh : h[i]? = some (.inr (ci, fs))) (hv : fs[k]? = some v) (kk : zk_V p l e R s m args below meth c nL D dA b base Q kc ks n ll (v :: st) h) : zk_V p l e R s m args below meth c nL D dA b base Q kc ks pc ll (.ref (i + 1) :: st) h := by
  subst hn
  obtain ⟨f1, f2, f3, f4, f5⟩ := F
  obtain ⟨hx, hb, hml, hown, hK, hbs, hlk, hret, hnm⟩ := C
  exact fun H locs ls hl hP hz hS => va_getN hx hb (zk_T_at hK) f4 hown hK.1 hP i (zk_w_get hh) f1 k f2 (zk_T_at hK _ f3) (fun x hx => by rw [f5] at hx; exact hx) (zk_map_get hv) hd (kk H locs ls hl hP hz hS)
theorem zk_stored {D : va_G} {dA : Nat → ClassId} {b base : Nat} {h : zk_H} {s : State} {H H1 : Heap} {locs : List Loc} {i k : Nat} {x0 x : zk_E} (hP : va_P D vwCl (zk_w dA b base h) H) (hz : H.size = base + h.length) (hS : va_S (fun q : Nat => base ≤ q) s.heap H locs) (hh : h[i]? = some x0) (he : va_at D vwCl (base + i, zk_e dA b base x) H1) (z : H1.size = H.size) (oq : ∀ q : Nat, q ≠ base + i → H1[q]? = H[q]?) : va_P D vwCl (zk_w dA b base (h.set i x)) H1 ∧ H1.size = base + (h.set i x).length ∧ va_S (fun q : Nat => base ≤ q) s.heap H1 (locs ++ [⟨base + i, k⟩]) := by
  refine ⟨?_, by rw [z, hz, List.length_set], hS.put z oq (Nat.le_add_right _ _)⟩
  rw [← zk_w_set]
  exact hP.set (zk_w_D dA b base h) (zk_w_get hh) he oq
theorem zr_put (C : zk_C p s m meth c cc nL own nm ret D dA base sz) {idx ci k N : Nat} {Cn : String} {T : u_T} {ty0 : Nat → FieldType} {ty : FieldType} (F : zk_F own idx ci k Cn T N) (Y : zk_Y T N ty0) (hfin : (T k).2.2.2 = false) (hty : ty0 k = ty) (hd : decode cc pc = .ok (.putfield idx, 3)) {n : Nat} (hn : pc + 3 = n) {i : Nat} {fs : List Value} {v : Value} (hh : h[i]? = some (.inr (ci, fs))) (hl0 : k < fs.length) (hnar : ∀ b base, narrow ty (zk_v b base v) = zk_v b base v) (hfit : ∀ b base, fits ty (zk_v b base v) = true) (kk : zk_V p l e R s m args below meth c nL D dA b base Q kc ks n ll st (h.set i (.inr (ci, fs.set k v)))) : zk_V p l e R s m args below meth c nL D dA b base Q kc ks pc ll (v :: .ref (i + 1) :: st) h := by
  subst hn
  obtain ⟨f1, f2, f3, f4, f5⟩ := F
  obtain ⟨hx, hb, hml, hown, hK, hbs, hlk, hret, hnm⟩ := C
  intro H locs ls hl hP hz hS
  have hts := zk_T_at (args := args) hK
  have hap := va_apart (own := own) hts f4 ty0 Y.1 Y.2 hK.1 f1
  obtain ⟨r, h1, cell, q1, q2, q3, q4⟩ := hP i _ (zk_w_get hh)
  have hr : r = (Cn, T, N) := Option.some.inj (h1.symm.trans f1)
  subst hr
  obtain ⟨hSl, hfc, kC, hkC, hkind⟩ := hK.1.1 ci _ f1
  obtain ⟨cf, kf, fi, f, hi, hsl⟩ := hSl k f2
  have hlay := hts _ (f4 _ (u_in_lay f2))
  unfold u_lay at hlay
  rw [if_neg (by rw [hfin]; decide)] at hlay
  have hst := (u_facts hfc hkC (u_lays hts f4 f2) hi).1
  have h6 := u_store hfc hkC hkind hlay hi (hty ▸ Y.1 k f2) (hnar b base) (hfit b base)
  have hi' : s.fieldFound? Cn (T k).2.1 (T k).2.2.1 = some (cf, kf, fi, f) := by rw [← f5]; exact hi
  refine W.putK hx hb (f := f) ⟨hown, hts _ f3, ⟨_, _, _, hi'⟩, hst⟩ (by rw [q2]; exact h6) q1 q3 (by rw [hsl]; exact k2_hasslot (q4 k f2)) rfl rfl hd fun H' e1 e2 e3 => ?_
  rw [hsl] at e1 ⊢
  obtain ⟨g1, g2, g3⟩ := zk_stored (k := D.2 ci k) hP hz hS hh (x := .inr (ci, fs.set k v)) ⟨_, f1, t_OB.to (V := updV (vp_V (fs.map (zk_v b base))) k (zk_v b base v)) ⟨_, e1, q2, q3, t_set q4 hap f2 _⟩ (fun j _ => by rw [List.map_set]; exact vp_updV_set (by rw [List.length_map]; exact hl0) _ j)⟩ e2 e3
  exact kk H' _ ls hl g1 g2 g3
theorem zr_putN (C : zk_C p s m meth c cc nL own nm ret D dA base sz) {idx ci k N : Nat} {Cn : String} {T : u_T} {host : String} {ty0 : Nat → FieldType} {ty : FieldType} (F : zk_FN own idx ci k Cn T N host) (Y : zk_Y T N ty0) (hfin : (T k).2.2.2 = false) (hty : ty0 k = ty) (hd : decode cc pc = .ok (.putfield idx, 3)) {n : Nat} (hn : pc + 3 = n) {i : Nat} {fs : List Value} {v : Value} (hh : h[i]? = some (.inr (ci, fs))) (hl0 : k < fs.length) (hnar : ∀ b base, narrow ty (zk_v b base v) = zk_v b base v) (hfit : ∀ b base, fits ty (zk_v b base v) = true) (kk : zk_V p l e R s m args below meth c nL D dA b base Q kc ks n ll st (h.set i (.inr (ci, fs.set k v)))) : zk_V p l e R s m args below meth c nL D dA b base Q kc ks pc ll (v :: .ref (i + 1) :: st) h := by
  subst hn
  obtain ⟨f1, f2, f3, f4, f5⟩ := F
  obtain ⟨hx, hb, hml, hown, hK, hbs, hlk, hret, hnm⟩ := C
  intro H locs ls hl hP hz hS
  have hts := zk_T_at (args := args) hK
  have hap := va_apart (own := own) hts f4 ty0 Y.1 Y.2 hK.1 f1
  obtain ⟨r, h1, cell, q1, q2, q3, q4⟩ := hP i _ (zk_w_get hh)
  have hr : r = (Cn, T, N) := Option.some.inj (h1.symm.trans f1)
  subst hr
  obtain ⟨hSl, hfc, kC, hkC, hkind⟩ := hK.1.1 ci _ f1
  obtain ⟨cf, kf, fi, f, hi, hsl⟩ := hSl k f2
  have hlay := hts _ (f4 _ (u_in_lay f2))
  unfold u_lay at hlay
  rw [if_neg (by rw [hfin]; decide)] at hlay
  have hst := (u_facts hfc hkC (u_lays hts f4 f2) hi).1
  have h6 := u_store hfc hkC hkind hlay hi (hty ▸ Y.1 k f2) (hnar b base) (hfit b base)
  have hi' : s.fieldFound? Cn (T k).2.1 (T k).2.2.1 = some (cf, kf, fi, f) := by rw [← f5]; exact hi
  refine va_WputK hx hb (f := f) hown (hts _ f3) hi' hst (by rw [q2]; exact h6) q1 q3 (by rw [hsl]; exact k2_hasslot (q4 k f2)) rfl rfl hd fun H' e1 e2 e3 => ?_
  rw [hsl] at e1 ⊢
  obtain ⟨g1, g2, g3⟩ := zk_stored (k := D.2 ci k) hP hz hS hh (x := .inr (ci, fs.set k v)) ⟨_, f1, t_OB.to (V := updV (vp_V (fs.map (zk_v b base))) k (zk_v b base v)) ⟨_, e1, q2, q3, t_set q4 hap f2 _⟩ (fun j _ => by rw [List.map_set]; exact vp_updV_set (by rw [List.length_map]; exact hl0) _ j)⟩ e2 e3
  exact kk H' _ ls hl g1 g2 g3
theorem zr_putF (C : zk_C p s m meth c cc nL own nm ret D dA base sz) {idx ci k N : Nat} {Cn : String} {T : u_T} {ty0 : Nat → FieldType} {ty : FieldType} (F : zk_F own idx ci k Cn T N) (Y : zk_Y T N ty0) (hfin : (T k).2.2.2 = true) (hin : nm = "<init>") (hdc : Cn = own) (hty : ty0 k = ty) (hd : decode cc pc = .ok (.putfield idx, 3)) {n : Nat} (hn : pc + 3 = n) {i : Nat} {fs : List Value} {v : Value} (hh : h[i]? = some (.inr (ci, fs))) (hl0 : k < fs.length) (hnar : ∀ b base, narrow ty (zk_v b base v) = zk_v b base v) (hfit : ∀ b base, fits ty (zk_v b base v) = true) (kk : zk_V p l e R s m args below meth c nL D dA b base Q kc ks n ll st (h.set i (.inr (ci, fs.set k v)))) : zk_V p l e R s m args below meth c nL D dA b base Q kc ks pc ll (v :: .ref (i + 1) :: st) h := by
  subst hn
  obtain ⟨f1, f2, f3, f4, f5⟩ := F
  obtain ⟨hx, hb, hml, hown, hK, hbs, hlk, hret, hnm⟩ := C
  intro H locs ls hl hP hz hS
  have hts := zk_T_at (args := args) hK
  have hap := va_apart (own := own) hts f4 ty0 Y.1 Y.2 hK.1 f1
  obtain ⟨r, h1, cell, q1, q2, q3, q4⟩ := hP i _ (zk_w_get hh)
  have hr : r = (Cn, T, N) := Option.some.inj (h1.symm.trans f1)
  subst hr
  obtain ⟨hSl, hfc, kC, hkC, hkind⟩ := hK.1.1 ci _ f1
  obtain ⟨cf, kf, fi, f, hi, hsl⟩ := hSl k f2
  have hlay := hts _ (f4 _ (u_in_lay f2))
  unfold u_lay at hlay
  rw [if_pos hfin] at hlay
  have hst := (u_facts hfc hkC (u_lays hts f4 f2) hi).1
  have hcf : m.cls = cf := by
    obtain ⟨_, _, c', _, _, _, -, -, hf', -, -, -, hown2, -⟩ := Cond.laysFinal_spec hlay
    have e1 : c' = cf := by have := hi.symm.trans hf'; simp at this; exact this.1.symm
    rw [f5, hdc] at hown2
    rw [← e1]; exact Option.some.inj (hown.symm.trans hown2)
  have h6 := u_fits hfc hkC hkind (Or.inr hlay) hi (hty ▸ Y.1 k f2) (hnar b base) (hfit b base)
  have hi' : s.fieldFound? Cn (T k).2.1 (T k).2.2.1 = some (cf, kf, fi, f) := by rw [← f5]; exact hi
  refine W.putFinK hx hb hown (hts _ f3) hi' hst hcf (hnm.trans hin) (by rw [q2]; exact h6) q1 q3 (by rw [hsl]; exact k2_hasslot (q4 k f2)) rfl rfl hd fun H' e1 e2 e3 => ?_
  rw [hsl] at e1 ⊢
  obtain ⟨g1, g2, g3⟩ := zk_stored (k := D.2 ci k) hP hz hS hh (x := .inr (ci, fs.set k v)) ⟨_, f1, t_OB.to (V := updV (vp_V (fs.map (zk_v b base))) k (zk_v b base v)) ⟨_, e1, q2, q3, t_set q4 hap f2 _⟩ (fun j _ => by rw [List.map_set]; exact vp_updV_set (by rw [List.length_map]; exact hl0) _ j)⟩ e2 e3
  exact kk H' _ ls hl g1 g2 g3
theorem zr_iald (C : zk_C p s m meth c cc nL own nm ret D dA base sz) (hd : decode cc pc = .ok (.iaload, 1)) {n : Nat} (hn : pc + 1 = n) {i len : Nat} {f : Nat → Int32} {x : Int32} (hh : h[i]? = some (.inl (0, len, .inl f))) (hin : vp_in x len) (k : zk_V p l e R s m args below meth c nL D dA b base Q kc ks n ll (.int (f x.toNatClampNeg) :: st) h) : zk_V p l e R s m args below meth c nL D dA b base Q kc ks pc ll (.int x :: .ref (i + 1) :: st) h := by
  subst hn
  exact fun H locs ls hl hP hz hS => va_iald C.1 C.2.1 C.2.2.2.2.1.1 hP i 0 (zk_w_get hh) rfl hin hd (k H locs ls hl hP hz hS)
theorem zr_aald (C : zk_C p s m meth c cc nL own nm ret D dA base sz) (hd : decode cc pc = .ok (.aaload, 1)) {n : Nat} (hn : pc + 1 = n) {i len t : Nat} {E : String} {f : Nat → Option Nat} {x : Int32} {y : Nat} (ht : (zk_tys dA)[t]? = some (dA t, .object E)) (hh : h[i]? = some (.inl (t, len, .inr (.inr (.inr (.inr f)))))) (hin : vp_in x len) (hy : f x.toNatClampNeg = some y) (k : zk_V p l e R s m args below meth c nL D dA b base Q kc ks n ll (.ref y :: st) h) : zk_V p l e R s m args below meth c nL D dA b base Q kc ks pc ll (.int x :: .ref (i + 1) :: st) h := by
  subst hn
  intro H locs ls hl hP hz hS
  refine va_aldq C.1 C.2.1 C.2.2.2.2.1.1 hP i t (zk_w_get hh) ht hin hd ?_
  rw [hy]
  exact k H locs ls hl hP hz hS
theorem zr_alen (C : zk_C p s m meth c cc nL own nm ret D dA base sz) (hd : decode cc pc = .ok (.arraylength, 1)) {n : Nat} (hn : pc + 1 = n) {i len : Nat} {f : Nat → Int32} {v : Int32} (hh : h[i]? = some (.inl (0, len, .inl f))) (hv : Int32.ofNat len = v) (k : zk_V p l e R s m args below meth c nL D dA b base Q kc ks n ll (.int v :: st) h) : zk_V p l e R s m args below meth c nL D dA b base Q kc ks pc ll (.ref (i + 1) :: st) h := by
  subst hn
  exact fun H locs ls hl hP hz hS => va_alen C.1 C.2.1 C.2.2.2.2.1.1 hP i 0 (zk_w_get hh) (ty := .int) rfl hv hd (k H locs ls hl hP hz hS)
theorem zr_iast (C : zk_C p s m meth c cc nL own nm ret D dA base sz) (hd : decode cc pc = .ok (.iastore, 1)) {n : Nat} (hn : pc + 1 = n) {i len : Nat} {f : Nat → Int32} {x y : Int32} (hh : h[i]? = some (.inl (0, len, .inl f))) (hin : vp_in x len) (k : zk_V p l e R s m args below meth c nL D dA b base Q kc ks n ll st (h.set i (.inl (0, len, .inl (upd f x.toNatClampNeg y))))) : zk_V p l e R s m args below meth c nL D dA b base Q kc ks pc ll (.int y :: .int x :: .ref (i + 1) :: st) h := by
  subst hn
  intro H locs ls hl hP hz hS
  refine W.iast C.1 C.2.1 (hP i _ (zk_w_get hh)) ((C.2.2.2.2.1.1.2 0 _ rfl).1 len (fun j => .int (f j))) (fun q => by cases q) (by show ¬ (x < 0 ∨ (arrV _ _ _).slots.size ≤ _); rw [arrV_size]; exact hin) rfl rfl hd fun H1 e1 z oq => ?_
  have e2 : H1[base + i]? = some ((arrV (dA 0) len (fun j => .int (f j))).setSlot x.toNatClampNeg (.int y)) := e1
  rw [arrV_store] at e2
  obtain ⟨g1, g2, g3⟩ := zk_stored (k := x.toNatClampNeg) hP hz hS hh (x := .inl (0, len, .inl (upd f x.toNatClampNeg y))) (by
    show H1[base + i]? = some (arrV (dA 0) len (fun j => .int (upd f x.toNatClampNeg y j)))
    rw [e2]
    congr 2
    funext q
    by_cases hq : q = x.toNatClampNeg
    · subst hq
      simp [updV, upd]
    · simp [updV, upd, hq]) z oq
  exact k H1 _ ls hl g1 g2 g3
theorem zr_aast (C : zk_C p s m meth c cc nL own nm ret D dA base sz) (hd : decode cc pc = .ok (.aastore, 1)) {n : Nat} (hn : pc + 1 = n) {i len t ci j : Nat} {E : vw_C} {vs : List Value} {f : Nat → Option Nat} {x : Int32} (ht : (zk_tys dA)[t]? = some (dA t, .object E.1)) (hc : vwCl[ci]? = some E) (hh : h[i]? = some (.inl (t, len, .inr (.inr (.inr (.inr f)))))) (hj : h[j]? = some (.inr (ci, vs))) (hin : vp_in x len) (k : zk_V p l e R s m args below meth c nL D dA b base Q kc ks n ll st (h.set i (.inl (t, len, .inr (.inr (.inr (.inr (va_up f x.toNatClampNeg (some (j + 1)))))))))) : zk_V p l e R s m args below meth c nL D dA b base Q kc ks pc ll (.ref (j + 1) :: .int x :: .ref (i + 1) :: st) h := by
  subst hn
  intro H locs ls hl hP hz hS
  have hK := C.2.2.2.2.1.1
  have hlt : x.toNatClampNeg < len := Nat.not_le.mp fun q => hin (Or.inr q)
  have h0 : ¬ x < 0 := fun q => hin (Or.inl q)
  obtain ⟨r', hr', cellV, g1, g2, g3, -⟩ := hP j _ (zk_w_get hj)
  have hcls := (hK.1 ci E hc).2
  obtain ⟨kA, comp, k1, k2, k3, -⟩ := (hK.2 t _ ht).2
  have hcomp : comp = D.1 ci := Option.some.inj (k3.symm.trans hcls.1)
  subst hcomp
  obtain ⟨kC, hkC, -⟩ := hcls.2
  refine W.aast C.1 C.2.1 (hP i _ (zk_w_get hh)) (fun q h => by cases h) (fun h => by cases h) k1 k2 rfl hkC ⟨h0, by show _ < (arrV _ _ _).slots.size; rw [arrV_size]; exact hlt⟩ g1 (fun q h => by rw [g3] at h; cases h) (by rw [g2]; exact hkC) (by rw [g2]; exact va_assign hcls) rfl rfl hd fun H1 e1 z oq => ?_
  have e2 : H1[base + i]? = some ((arrV (dA t) len (fun q => va_rf ((f q).map (zk_ad b base)))).setSlot x.toNatClampNeg (.ref (base + j))) := e1
  rw [arrV_store] at e2
  obtain ⟨g1, g2, g3⟩ := zk_stored (k := x.toNatClampNeg) hP hz hS hh (x := .inl (t, len, .inr (.inr (.inr (.inr (va_up f x.toNatClampNeg (some (j + 1)))))))) (by
    show H1[base + i]? = some (arrV (dA t) len (fun q => va_rf ((va_up f x.toNatClampNeg (some (j + 1)) q).map (zk_ad b base))))
    rw [e2]
    congr 2
    funext q
    by_cases hq : q = x.toNatClampNeg
    · subst hq
      simp [updV, va_up, va_rf, zk_ad]
    · simp [updV, va_up, hq]) z oq
  exact k H1 _ ls hl g1 g2 g3
theorem zk_born {D : va_G} {dA : Nat → ClassId} {b base : Nat} {h : zk_H} {s : State} {H H1 : Heap} {locs : List Loc} {x : zk_E} (hP : va_P D vwCl (zk_w dA b base h) H) (hz : H.size = base + h.length) (hS : va_S (fun q : Nat => base ≤ q) s.heap H locs) (he : va_at D vwCl (base + h.length, zk_e dA b base x) H1) (z1 : H1.size = H.size + 1) (o1 : ∀ q : Nat, q < H.size → H1[q]? = H[q]?) : va_P D vwCl (zk_w dA b base (h ++ [x])) H1 ∧ H1.size = base + (h ++ [x]).length ∧ va_S (fun q : Nat => base ≤ q) s.heap H1 locs := by
  refine ⟨?_, by rw [z1, hz, List.length_append]; rfl, ⟨Nat.le_trans hS.1 (by omega), fun x h1 h2 => (o1 x (Nat.lt_of_lt_of_le h1 hS.1)).trans (hS.2.1 x h1 h2), hS.2.2⟩⟩
  rw [← zk_w_push]
  have hk : ∀ (k : Nat) (x : Nat × va_E), (zk_w dA b base h)[k]? = some x → H1[x.1]? = H[x.1]? := fun k x hx => o1 x.1 ((hP k x hx).lt)
  refine (hP.kept hk).app (fun k q hq => ?_)
  have hz1 : k < 1 := (List.getElem?_eq_some_iff.mp hq).1
  rw [show k = 0 by omega] at hq
  cases hq
  exact he
def zk_N (own : String) (idx ci : Nat) (Cn : String) (T : u_T) (N : Nat) : Prop := vwCl[ci]? = some (Cn, T, N) ∧ Cond.classLink own idx Cn ∈ zk_tb ∧ Cond.instantiable Cn N ∈ zk_tb ∧ Cond.initialized Cn ∈ zk_tb ∧ (∀ w ∈ u_ws Cn T N, w ∈ zk_tb)
theorem zr_new (C : zk_C p s m meth c cc nL own nm ret D dA base sz) {idx ci N : Nat} {Cn : String} {T : u_T} {ty0 : Nat → FieldType} (F : zk_N own idx ci Cn T N) (Y : zk_Y T N ty0) (hd : decode cc pc = .ok (.new idx, 3)) {n : Nat} (hn : pc + 3 = n) (fs : List Value) (hfs : ∀ j, j < N → defaultValue (ty0 j) = vp_V fs j) (hfz : ∀ b base, fs.map (zk_v b base) = fs) (n0 : Nat) (hn0 : h.length = n0) (hcells : kc + 1 ≤ R.cells) (hslots : ks + N ≤ R.slots) (k : zk_V p l e R s m args below meth c nL D dA b base Q (kc + 1) (ks + N) n ll (.ref (n0 + 1) :: st) (h ++ [.inr (ci, fs)])) : zk_V p l e R s m args below meth c nL D dA b base Q kc ks pc ll st h := by
  subst hn
  subst hn0
  obtain ⟨f1, f2, f3, f4, f5⟩ := F
  obtain ⟨hx, hb, hml, hown, hK, hbs, hlk, hret, hnm⟩ := C
  intro H locs ls hl hP hz hS
  have hts := zk_T_at (args := args) hK
  have hKn := hK.1.1 ci _ f1
  refine W.newcK hx hb hown (hts _ f2) (hts _ f3) (hts _ f4) rfl hd hcells hslots hKn.2.1 hz fun H1 kC hkC e1 z1 o1 => ?_
  obtain ⟨g1, g2, g3⟩ := zk_born hP hz hS (x := .inr (ci, fs)) ⟨_, f1, by rw [hfz b base]; exact (u_born ty0 hts f5 hKn hkC e1 Y.1).to hfs⟩ (by rw [z1, hz]) (fun q hq => o1 q (by rw [← hz]; exact hq))
  exact k H1 _ ls hl g1 g2 g3
theorem zr_newi (C : zk_C p s m meth c cc nL own nm ret D dA base sz) (hw : Cond.arrayClass .int ∈ zk_tb) (hd : decode cc pc = .ok (.newarray .int, 2)) {n : Nat} (hn : pc + 2 = n) {x : Int32} {len : Nat} (h0 : ¬ x < 0) (hlen : x.toNatClampNeg = len) (hbytes : len * 4 ≤ 536870912) (n0 : Nat) (hn0 : h.length = n0) (hcells : kc + 1 ≤ R.cells) (hslots : ks + len ≤ R.slots) (k : zk_V p l e R s m args below meth c nL D dA b base Q (kc + 1) (ks + len) n ll (.ref (n0 + 1) :: st) (h ++ [.inl (0, len, .inl (fun _ => 0))])) : zk_V p l e R s m args below meth c nL D dA b base Q kc ks pc ll (.int x :: st) h := by
  subst hn
  subst hn0
  obtain ⟨hx, hb, hml, hown, hK, hbs, hlk, hret, hnm⟩ := C
  intro H locs ls hl hP hz hS
  have hts := zk_T_at (args := args) hK
  refine va_newaK hx hb (atype := .int) (hts _ hw) rfl hd rfl h0 hlen hbytes hcells hslots hz fun H1 cA e1 z1 o1 hAr hNm => ?_
  have hcA : cA = dA 0 := Option.some.inj (hNm.symm.trans (hK.1.2 0 _ rfl).2)
  subst hcA
  obtain ⟨g1, g2, g3⟩ := zk_born hP hz hS (x := .inl (0, len, .inl (fun _ => 0))) (show H1[base + h.length]? = some (arrV (dA 0) len (fun _ => .int 0)) from e1) (by rw [z1, hz]) (fun q hq => o1 q (by rw [← hz]; exact hq))
  exact k H1 _ ls hl g1 g2 g3
theorem zr_newq (C : zk_C p s m meth c cc nL own nm ret D dA base sz) {idx t : Nat} {E : String} (ht : (zk_tys dA)[t]? = some (dA t, .object E)) (hcl : Cond.classLink own idx E ∈ zk_tb) (hw : Cond.arrayOver (.object E) ∈ zk_tb) (hd : decode cc pc = .ok (.anewarray idx, 3)) {n : Nat} (hn : pc + 3 = n) {x : Int32} {len : Nat} (h0 : ¬ x < 0) (hlen : x.toNatClampNeg = len) (hbytes : len * 4 ≤ 536870912) (n0 : Nat) (hn0 : h.length = n0) (hcells : kc + 1 ≤ R.cells) (hslots : ks + len ≤ R.slots) (k : zk_V p l e R s m args below meth c nL D dA b base Q (kc + 1) (ks + len) n ll (.ref (n0 + 1) :: st) (h ++ [.inl (t, len, .inr (.inr (.inr (.inr (fun _ => none)))))])) : zk_V p l e R s m args below meth c nL D dA b base Q kc ks pc ll (.int x :: st) h := by
  subst hn
  subst hn0
  subst hlen
  obtain ⟨hx, hb, hml, hown, hK, hbs, hlk, hret, hnm⟩ := C
  intro H locs ls hl hP hz hS
  have hts := zk_T_at (args := args) hK
  refine W.anew hx hb hown (hts _ hcl) (hts _ hw) rfl hd rfl h0 hbytes hcells hslots fun cA kA comp f1 f2 f3 f4 => ?_
  have hcA : cA = dA t := by
    obtain ⟨_, _, _, _, _, q⟩ := (hK.1.2 t _ ht).2
    exact Option.some.inj (f1.symm.trans q)
  subst hcA
  generalize hH1 : H.push ({ cls := dA t, slots := Array.replicate x.toNatClampNeg .null, vm := .none } : Cell) = H1
  have z1 : H1.size = H.size + 1 := by rw [← hH1, Array.size_push]
  have e1 : H1[H.size]? = some (arrV (dA t) x.toNatClampNeg (fun _ => .null)) := by rw [← hH1, Array.getElem?_push_size, ← arrV_new]
  have o1 : ∀ q : Nat, q < H.size → H1[q]? = H[q]? := fun q hq => by rw [← hH1, Array.getElem?_push, if_neg (Nat.ne_of_lt hq)]
  rw [hz] at e1 ⊢
  obtain ⟨g1, g2, g3⟩ := zk_born hP hz hS (x := .inl (t, x.toNatClampNeg, .inr (.inr (.inr (.inr (fun _ => none)))))) (show H1[base + h.length]? = some (arrV (dA t) x.toNatClampNeg (fun _ => .null)) from e1) z1 o1
  exact k H1 _ ls hl g1 g2 g3
def zk_O (own : String) (idx : Nat) : Prop := Cond.methodLink own idx Lib.objectInit ∈ zk_tb ∧ Cond.instanceMethod Lib.objectInit ∈ zk_tb ∧ Cond.code Lib.objectInit ⟨#[0xb1]⟩ 1 none ∈ zk_tb
theorem zk_sum (b base : Nat) (rest : List Value) : ((rest.map (zk_v b base)).map fun v => v.category).sum = (rest.map fun v => v.category).sum := by
  rw [List.map_map]
  have e : ((fun v : Value => v.category) ∘ zk_v b base) = fun v => v.category := funext (zk_cat b base)
  rw [e]
theorem zr_objInit (C : zk_C p s m meth c cc nL own nm ret D dA base sz) {idx : Nat} (F : zk_O own idx) (hd : decode cc pc = .ok (.invokespecial idx, 3)) {n : Nat} (hn : pc + 3 = n) {i : Nat} (hfr : 1 ≤ R.frames) (hlo : (st.map fun v => v.category).sum + 12 ≤ R.locals) (k : zk_V p l e R s m args below meth c nL D dA b base Q kc ks n ll st h) : zk_V p l e R s m args below meth c nL D dA b base Q kc ks pc ll (.ref (i + 1) :: st) h := by
  subst hn
  obtain ⟨hx, hb, hml, hown, hK, hbs, hlk, hret, hnm⟩ := C
  intro H locs ls hl hP hz hS
  have hts := zk_T_at (args := args) hK
  exact W.objInit hx hb hown (hts _ F.1) (hts _ F.2.1) (hts _ F.2.2) rfl (by rw [hml]; exact hl.1) rfl hd hfr (by rw [zk_sum]; show 2 * 0 + _ + 12 ≤ _; omega) (k H locs ls hl hP hz hS)

theorem zr_iret {K : Option Value → zk_H → Prop} {mc ms : Nat} {x y : Int32} (C : zk_C p s m meth c cc nL own nm (some .int) D dA base sz) (hd : decode cc pc = .ok (.ireturn, 1)) (hxy : x = y) (hk : K (some (.int y)) h) (hc : kc ≤ mc) (hs : ks ≤ ms) : zk_V p l e R s m args below meth c nL D dA b base (MQ below (zk_Q K D dA b base) args s mc ms (fun q : Nat => base ≤ q)) kc ks pc ll [.int x] h := by
  intro H locs ls hl hP hz hS
  refine W.widen (k := mc) (n := ms) hc hs ?_
  subst hxy
  exact W.iret (v := x) C.1 C.2.1 C.2.2.2.2.2.2.2.1 (fun t ht hW => ⟨⟨(some (.int x)), h, rfl, hk, by rw [ht]; exact hP, by rw [ht]; exact hz⟩, hS.F ht⟩) hS.2.2 hd C.2.2.2.2.2.2.1
theorem zr_zret {K : Option Value → zk_H → Prop} {mc ms : Nat} {x y : Int32} (C : zk_C p s m meth c cc nL own nm (some .boolean) D dA base sz) (hd : decode cc pc = .ok (.ireturn, 1)) (hxy : x = y) (hnr : narrow .boolean (.int x) = .int x) (hk : K (some (.int y)) h) (hc : kc ≤ mc) (hs : ks ≤ ms) : zk_V p l e R s m args below meth c nL D dA b base (MQ below (zk_Q K D dA b base) args s mc ms (fun q : Nat => base ≤ q)) kc ks pc ll [.int x] h := by
  intro H locs ls hl hP hz hS
  refine W.widen (k := mc) (n := ms) hc hs ?_
  subst hxy
  exact W.zret (v := x) C.1 C.2.1 C.2.2.2.2.2.2.2.1 hnr (fun t ht hW => ⟨⟨(some (.int x)), h, rfl, hk, by rw [ht]; exact hP, by rw [ht]; exact hz⟩, hS.F ht⟩) hS.2.2 hd C.2.2.2.2.2.2.1
theorem zr_dret {K : Option Value → zk_H → Prop} {mc ms : Nat} {x y : UInt64} (C : zk_C p s m meth c cc nL own nm (some .double) D dA base sz) (hd : decode cc pc = .ok (.dreturn, 1)) (hxy : x = y) (hk : K (some (.double y)) h) (hc : kc ≤ mc) (hs : ks ≤ ms) : zk_V p l e R s m args below meth c nL D dA b base (MQ below (zk_Q K D dA b base) args s mc ms (fun q : Nat => base ≤ q)) kc ks pc ll [.double x] h := by
  intro H locs ls hl hP hz hS
  refine W.widen (k := mc) (n := ms) hc hs ?_
  subst hxy
  exact W.dret (v := x) C.1 C.2.1 C.2.2.2.2.2.2.2.1 (fun t ht hW => ⟨⟨(some (.double x)), h, rfl, hk, by rw [ht]; exact hP, by rw [ht]; exact hz⟩, hS.F ht⟩) hS.2.2 hd C.2.2.2.2.2.2.1
theorem zr_vret {K : Option Value → zk_H → Prop} {mc ms : Nat}  (C : zk_C p s m meth c cc nL own nm none D dA base sz) (hd : decode cc pc = .ok (.return_, 1))  (hk : K none h) (hc : kc ≤ mc) (hs : ks ≤ ms) : zk_V p l e R s m args below meth c nL D dA b base (MQ below (zk_Q K D dA b base) args s mc ms (fun q : Nat => base ≤ q)) kc ks pc ll [] h := by
  intro H locs ls hl hP hz hS
  refine W.widen (k := mc) (n := ms) hc hs ?_
  exact W.vret C.1 C.2.1 C.2.2.2.2.2.2.2.1 (fun t ht hW => ⟨⟨none, h, rfl, hk, by rw [ht]; exact hP, by rw [ht]; exact hz⟩, hS.F ht⟩) hS.2.2 hd C.2.2.2.2.2.2.1
theorem zr_aret {K : Option Value → zk_H → Prop} {mc ms : Nat} {E : String} {x : Nat} (C : zk_C p s m meth c cc nL own nm (some (.object E)) D dA base sz) (hd : decode cc pc = .ok (.areturn, 1))  (hk : K (some (.ref x)) h) (hc : kc ≤ mc) (hs : ks ≤ ms) : zk_V p l e R s m args below meth c nL D dA b base (MQ below (zk_Q K D dA b base) args s mc ms (fun q : Nat => base ≤ q)) kc ks pc ll [.ref x] h := by
  intro H locs ls hl hP hz hS
  refine W.widen (k := mc) (n := ms) hc hs ?_
  exact W.aret (v := .ref (zk_ad b base x)) C.1 C.2.1 C.2.2.2.2.2.2.2.1 (Or.inl ⟨_, rfl⟩) (Or.inr ⟨_, rfl⟩) (fun t ht hW => ⟨⟨(some (.ref x)), h, rfl, hk, by rw [ht]; exact hP, by rw [ht]; exact hz⟩, hS.F ht⟩) hS.2.2 hd C.2.2.2.2.2.2.1
theorem zk_after {K : Option Value → zk_H → Prop} {mc ms : Nat} {H : Heap} {locs : List Loc} {ls : Array Slot} {st0 rest : List Value} {a : Array Value} (run : va_Run p l e R s m args below meth c H locs kc ks mc ms (F0 m pc ls st0) (rest.map (zk_v b base)) (zk_Q K D dA b base a) (fun q : Nat => base ≤ q)) (hl : zk_l b base ls nL ll) (hS : va_S (fun q : Nat => base ≤ q) s.heap H locs) (hK : ∀ (r : Option Value) (h' : zk_H), K r h' → zk_V p l e R s m args below meth c nL D dA b base Q (kc + mc) (ks + ms) (pc + 3) ll (zk_push r rest) h') : W p l e R s m args below meth c H locs kc ks Q (F0 m pc ls st0) := by
  intro T hT X
  obtain ⟨v, st₀, t, T', L, h0, X', hL, e1, e2, ⟨⟨r, h', hv, hk, hP', hz'⟩, hz, hk2⟩, go⟩ := run T hT X
  rw [h0] at hz hk2
  have hS' : va_S (fun q : Nat => base ≤ q) s.heap T'.heap (locs ++ L) := ⟨Nat.le_trans hS.1 (by rw [e1]; exact hz), fun q h1 h2 => by rw [e1, hk2 q (Nat.lt_of_lt_of_le h1 hS.1) h2]; exact hS.2.1 q h1 h2, fun q hq => by
      rcases List.mem_append.mp hq with h | h
      · exact hS.2.2 q h
      · exact hL q h⟩
  have w := hK r h' hk T'.heap (locs ++ L) ls hl (by rw [e1]; exact hP') (by rw [e1]; exact hz') hS'
  obtain ⟨t2, a1, b1⟩ := w T' rfl X'
  cases r with
  | none => cases hv; exact ⟨t2, go t2 a1, b1⟩
  | some r => cases hv; exact ⟨t2, go t2 a1, b1⟩

theorem zk_goodc {y : MethodName} {bytes : ByteArray} {maxL : Nat} {rt : Option FieldType} (h : Cond.code y bytes maxL rt ∈ zk_tb) : GoodIn zk_tb [Cond.code y bytes maxL rt] := fun w hw => by
  rw [List.mem_singleton] at hw
  subst hw
  exact ⟨h, Or.inl rfl⟩
def zk_LS (own : String) (idx : Nat) (y : MethodName) (bytes : ByteArray) (maxL : Nat) (rt : Option FieldType) (n : Nat) : Prop := Cond.methodLink own idx y ∈ zk_tb ∧ Cond.static y ∈ zk_tb ∧ Cond.initialized y.cls ∈ zk_tb ∧ Cond.code y bytes maxL rt ∈ zk_tb ∧ (y.cls ≠ "java/lang/invoke/MethodHandle" ∧ y.cls ≠ "java/lang/invoke/VarHandle" ∧ (parseMethodDescriptor y.desc).map (fun d => d.parameters.length) = some n)
theorem zr_callS (C : zk_C p s m meth c cc nL own nm ret D dA base sz) {idx n maxL : Nat} {y : MethodName} {bytes : ByteArray} {rt : Option FieldType} (F : zk_LS own idx y bytes maxL rt n) (hd : decode cc pc = .ok (.invokestatic idx, 3)) {nx : Nat} (hn : pc + 3 = nx) (As rest : List Value) {rm : Room} (hst : As.reverse ++ rest = st) (hna : As.length = n) (hR : rm.frames + 1 ≤ R.frames ∧ 8 + (maxL + 11) + rm.locals ≤ R.locals) (hr8 : (rest.map fun v => v.category).sum ≤ 8) (hf : kc + rm.cells ≤ R.cells ∧ ks + rm.slots ≤ R.slots) (sp : zk_S l y bytes maxL rt rm As h (fun r h' => zk_V p l e R s m args below meth c nL D dA b base Q (kc + rm.cells) (ks + rm.slots) nx ll (zk_push r rest) h')) : zk_V p l e R s m args below meth c nL D dA b base Q kc ks pc ll st h := by
  subst hn
  subst hst
  obtain ⟨c0, cs, c1, c2, c3⟩ := F
  obtain ⟨hx, hb, hml, hown, hK, hbs, hlk, hret, hnm⟩ := C
  intro H locs ls hl hP hz hS
  have hts := zk_T_at (args := args) hK
  have cb := callB_of n hts (zk_goodc c2) rfl rfl rfl (hts _ c1) (hts _ c0) c3 hR
  refine zk_after (va_runS (As := As.map (zk_v b base)) (rest := rest.map (zk_v b base)) ⟨hx, hb, hml, hown, hts⟩ (sp D dA b base) ⟨cb, hts _ cs⟩ ⟨zk_P_blind, fun U hU hW => ⟨rfl, by rw [hU]; exact hP, by rw [hU]; exact hz, zk_K_warm hW hK⟩⟩ rfl (by rw [List.length_map]; exact hna) hl.1 (by simp [List.map_append, List.map_reverse, zk_v, zk_ad]) (lv_room (by rw [zk_sum]; exact hr8)) hd hf) hl hS (fun r h' q => q)
def zk_LSN (own : String) (idx : Nat) (y : MethodName) (bytes : ByteArray) (maxL : Nat) (rt : Option FieldType) (n : Nat) (host : String) : Prop := Cond.methodLinkNest own idx y host ∈ zk_tb ∧ Cond.static y ∈ zk_tb ∧ Cond.initialized y.cls ∈ zk_tb ∧ Cond.code y bytes maxL rt ∈ zk_tb ∧ (y.cls ≠ "java/lang/invoke/MethodHandle" ∧ y.cls ≠ "java/lang/invoke/VarHandle" ∧ (parseMethodDescriptor y.desc).map (fun d => d.parameters.length) = some n)
theorem zr_callSN (C : zk_C p s m meth c cc nL own nm ret D dA base sz) {idx n maxL : Nat} {y : MethodName} {bytes : ByteArray} {rt : Option FieldType} {host : String} (F : zk_LSN own idx y bytes maxL rt n host) (hd : decode cc pc = .ok (.invokestatic idx, 3)) {nx : Nat} (hn : pc + 3 = nx) (As rest : List Value) {rm : Room} (hst : As.reverse ++ rest = st) (hna : As.length = n) (hR : rm.frames + 1 ≤ R.frames ∧ 8 + (maxL + 11) + rm.locals ≤ R.locals) (hr8 : (rest.map fun v => v.category).sum ≤ 8) (hf : kc + rm.cells ≤ R.cells ∧ ks + rm.slots ≤ R.slots) (sp : zk_S l y bytes maxL rt rm As h (fun r h' => zk_V p l e R s m args below meth c nL D dA b base Q (kc + rm.cells) (ks + rm.slots) nx ll (zk_push r rest) h')) : zk_V p l e R s m args below meth c nL D dA b base Q kc ks pc ll st h := by
  subst hn
  subst hst
  obtain ⟨c0, cs, c1, c2, c3⟩ := F
  obtain ⟨hx, hb, hml, hown, hK, hbs, hlk, hret, hnm⟩ := C
  intro H locs ls hl hP hz hS
  have hts := zk_T_at (args := args) hK
  have cb := va_cnB (host := host) n hts (zk_goodc c2) rfl rfl rfl (hK.2 _ c0 #[]) (hts _ c1) c3 hR
  refine zk_after (va_runSN (As := As.map (zk_v b base)) (rest := rest.map (zk_v b base)) ⟨hx, hb, hml, hown, hts⟩ (sp D dA b base) ⟨cb, hts _ cs, trivial⟩ ⟨zk_P_blind, fun U hU hW => ⟨rfl, by rw [hU]; exact hP, by rw [hU]; exact hz, zk_K_warm hW hK⟩⟩ rfl (by rw [List.length_map]; exact hna) hl.1 (by simp [List.map_append, List.map_reverse, zk_v, zk_ad]) (lv_room (by rw [zk_sum]; exact hr8)) hd hf) hl hS (fun r h' q => q)
def zk_LV (own : String) (idx : Nat) (y : MethodName) (bytes : ByteArray) (maxL : Nat) (rt : Option FieldType) (n : Nat) : Prop := Cond.methodLink own idx y ∈ zk_tb ∧ (Cond.instanceMethod y ∈ zk_tb ∧ Cond.selects y.cls y y ∈ zk_tb) ∧ Cond.initialized y.cls ∈ zk_tb ∧ Cond.code y bytes maxL rt ∈ zk_tb ∧ (y.cls ≠ "java/lang/invoke/MethodHandle" ∧ y.cls ≠ "java/lang/invoke/VarHandle" ∧ (parseMethodDescriptor y.desc).map (fun d => d.parameters.length) = some n)
theorem zr_callV (C : zk_C p s m meth c cc nL own nm ret D dA base sz) {idx n maxL : Nat} {y : MethodName} {bytes : ByteArray} {rt : Option FieldType} (F : zk_LV own idx y bytes maxL rt n) (hd : decode cc pc = .ok (.invokevirtual idx, 3)) {nx : Nat} (hn : pc + 3 = nx) (As rest : List Value) {rm : Room} {i : Nat} (hst : As.reverse ++ .ref (i + 1) :: rest = st) (hna : As.length = n) {ci : Nat} {fs : List Value} {T : u_T} {N : Nat} (hh : h[i]? = some (.inr (ci, fs))) (hc : vwCl[ci]? = some (y.cls, T, N)) (hR : rm.frames + 1 ≤ R.frames ∧ 8 + (maxL + 11) + rm.locals ≤ R.locals) (hr8 : (rest.map fun v => v.category).sum ≤ 8) (hf : kc + rm.cells ≤ R.cells ∧ ks + rm.slots ≤ R.slots) (sp : zk_S l y bytes maxL rt rm (.ref (i + 1) :: As) h (fun r h' => zk_V p l e R s m args below meth c nL D dA b base Q (kc + rm.cells) (ks + rm.slots) nx ll (zk_push r rest) h')) : zk_V p l e R s m args below meth c nL D dA b base Q kc ks pc ll st h := by
  subst hn
  subst hst
  obtain ⟨c0, cs, c1, c2, c3⟩ := F
  obtain ⟨hx, hb, hml, hown, hK, hbs, hlk, hret, hnm⟩ := C
  intro H locs ls hl hP hz hS
  have hts := zk_T_at (args := args) hK
  have cb := callB_of n hts (zk_goodc c2) rfl rfl rfl (hts _ c1) (hts _ c0) c3 hR
  refine zk_after (va_runV (As := As.map (zk_v b base)) (rest := rest.map (zk_v b base)) (b := base + i) (C := y.cls) ⟨hx, hb, hml, hown, hts⟩ (sp D dA b base) ⟨cb, hts _ cs.1, hts _ cs.2⟩ ⟨zk_P_blind, va_recv hK.1 hP hc (zk_w_get hh), fun U hU hW => ⟨rfl, by rw [hU]; exact hP, by rw [hU]; exact hz, zk_K_warm hW hK⟩⟩ rfl (by rw [List.length_map]; exact hna) hl.1 (by simp [List.map_append, List.map_reverse, zk_v, zk_ad]) (lv_room (by rw [zk_sum]; exact hr8)) hd hf) hl hS (fun r h' q => q)
def zk_LVN (own : String) (idx : Nat) (y : MethodName) (bytes : ByteArray) (maxL : Nat) (rt : Option FieldType) (n : Nat) (host : String) : Prop := Cond.methodLinkNest own idx y host ∈ zk_tb ∧ (Cond.instanceMethod y ∈ zk_tb ∧ Cond.selects y.cls y y ∈ zk_tb) ∧ Cond.initialized y.cls ∈ zk_tb ∧ Cond.code y bytes maxL rt ∈ zk_tb ∧ (y.cls ≠ "java/lang/invoke/MethodHandle" ∧ y.cls ≠ "java/lang/invoke/VarHandle" ∧ (parseMethodDescriptor y.desc).map (fun d => d.parameters.length) = some n)
theorem zr_callVN (C : zk_C p s m meth c cc nL own nm ret D dA base sz) {idx n maxL : Nat} {y : MethodName} {bytes : ByteArray} {rt : Option FieldType} {host : String} (F : zk_LVN own idx y bytes maxL rt n host) (hd : decode cc pc = .ok (.invokevirtual idx, 3)) {nx : Nat} (hn : pc + 3 = nx) (As rest : List Value) {rm : Room} {i : Nat} (hst : As.reverse ++ .ref (i + 1) :: rest = st) (hna : As.length = n) {ci : Nat} {fs : List Value} {T : u_T} {N : Nat} (hh : h[i]? = some (.inr (ci, fs))) (hc : vwCl[ci]? = some (y.cls, T, N)) (hR : rm.frames + 1 ≤ R.frames ∧ 8 + (maxL + 11) + rm.locals ≤ R.locals) (hr8 : (rest.map fun v => v.category).sum ≤ 8) (hf : kc + rm.cells ≤ R.cells ∧ ks + rm.slots ≤ R.slots) (sp : zk_S l y bytes maxL rt rm (.ref (i + 1) :: As) h (fun r h' => zk_V p l e R s m args below meth c nL D dA b base Q (kc + rm.cells) (ks + rm.slots) nx ll (zk_push r rest) h')) : zk_V p l e R s m args below meth c nL D dA b base Q kc ks pc ll st h := by
  subst hn
  subst hst
  obtain ⟨c0, cs, c1, c2, c3⟩ := F
  obtain ⟨hx, hb, hml, hown, hK, hbs, hlk, hret, hnm⟩ := C
  intro H locs ls hl hP hz hS
  have hts := zk_T_at (args := args) hK
  have cb := va_cnB (host := host) n hts (zk_goodc c2) rfl rfl rfl (hK.2 _ c0 #[]) (hts _ c1) c3 hR
  refine zk_after (va_runVN (As := As.map (zk_v b base)) (rest := rest.map (zk_v b base)) (b := base + i) (C := y.cls) ⟨hx, hb, hml, hown, hts⟩ (sp D dA b base) ⟨cb, hts _ cs.1, hts _ cs.2⟩ ⟨zk_P_blind, va_recv hK.1 hP hc (zk_w_get hh), fun U hU hW => ⟨rfl, by rw [hU]; exact hP, by rw [hU]; exact hz, zk_K_warm hW hK⟩⟩ rfl (by rw [List.length_map]; exact hna) hl.1 (by simp [List.map_append, List.map_reverse, zk_v, zk_ad]) (lv_room (by rw [zk_sum]; exact hr8)) hd hf) hl hS (fun r h' q => q)
def zk_LI (own : String) (idx : Nat) (y : MethodName) (bytes : ByteArray) (maxL : Nat) (n : Nat) : Prop := Cond.methodLink own idx y ∈ zk_tb ∧ (Cond.instanceMethod y ∈ zk_tb ∧ y.name = "<init>") ∧ Cond.initialized y.cls ∈ zk_tb ∧ Cond.code y bytes maxL none ∈ zk_tb ∧ (y.cls ≠ "java/lang/invoke/MethodHandle" ∧ y.cls ≠ "java/lang/invoke/VarHandle" ∧ (parseMethodDescriptor y.desc).map (fun d => d.parameters.length) = some n)
theorem zr_callI (C : zk_C p s m meth c cc nL own nm ret D dA base sz) {idx n maxL : Nat} {y : MethodName} {bytes : ByteArray} (F : zk_LI own idx y bytes maxL n) (hd : decode cc pc = .ok (.invokespecial idx, 3)) {nx : Nat} (hn : pc + 3 = nx) (As rest : List Value) {rm : Room} {i : Nat} (hst : As.reverse ++ .ref (i + 1) :: rest = st) (hna : As.length = n) (hR : rm.frames + 1 ≤ R.frames ∧ 8 + (maxL + 11) + rm.locals ≤ R.locals) (hr8 : (rest.map fun v => v.category).sum ≤ 8) (hf : kc + rm.cells ≤ R.cells ∧ ks + rm.slots ≤ R.slots) (sp : zk_S l y bytes maxL none rm (.ref (i + 1) :: As) h (fun r h' => zk_V p l e R s m args below meth c nL D dA b base Q (kc + rm.cells) (ks + rm.slots) nx ll (zk_push r rest) h')) : zk_V p l e R s m args below meth c nL D dA b base Q kc ks pc ll st h := by
  subst hn
  subst hst
  obtain ⟨c0, cs, c1, c2, c3⟩ := F
  obtain ⟨hx, hb, hml, hown, hK, hbs, hlk, hret, hnm⟩ := C
  intro H locs ls hl hP hz hS
  have hts := zk_T_at (args := args) hK
  have cb := callB_of n hts (zk_goodc c2) rfl rfl rfl (hts _ c1) (hts _ c0) c3 hR
  refine zk_after (va_runI (As := As.map (zk_v b base)) (rest := rest.map (zk_v b base)) (b := base + i) ⟨hx, hb, hml, hown, hts⟩ (sp D dA b base) ⟨cb, cs.2, hts _ cs.1⟩ ⟨zk_P_blind, fun U hU hW => ⟨rfl, by rw [hU]; exact hP, by rw [hU]; exact hz, zk_K_warm hW hK⟩⟩ rfl (by rw [List.length_map]; exact hna) hl.1 (by simp [List.map_append, List.map_reverse, zk_v, zk_ad]) (lv_room (by rw [zk_sum]; exact hr8)) hd hf) hl hS (fun r h' q => q)
def zk_LIN (own : String) (idx : Nat) (y : MethodName) (bytes : ByteArray) (maxL : Nat) (n : Nat) (host : String) : Prop := Cond.methodLinkNest own idx y host ∈ zk_tb ∧ (Cond.instanceMethod y ∈ zk_tb ∧ y.name = "<init>") ∧ Cond.initialized y.cls ∈ zk_tb ∧ Cond.code y bytes maxL none ∈ zk_tb ∧ (y.cls ≠ "java/lang/invoke/MethodHandle" ∧ y.cls ≠ "java/lang/invoke/VarHandle" ∧ (parseMethodDescriptor y.desc).map (fun d => d.parameters.length) = some n)
theorem zr_callIN (C : zk_C p s m meth c cc nL own nm ret D dA base sz) {idx n maxL : Nat} {y : MethodName} {bytes : ByteArray} {host : String} (F : zk_LIN own idx y bytes maxL n host) (hd : decode cc pc = .ok (.invokespecial idx, 3)) {nx : Nat} (hn : pc + 3 = nx) (As rest : List Value) {rm : Room} {i : Nat} (hst : As.reverse ++ .ref (i + 1) :: rest = st) (hna : As.length = n) (hR : rm.frames + 1 ≤ R.frames ∧ 8 + (maxL + 11) + rm.locals ≤ R.locals) (hr8 : (rest.map fun v => v.category).sum ≤ 8) (hf : kc + rm.cells ≤ R.cells ∧ ks + rm.slots ≤ R.slots) (sp : zk_S l y bytes maxL none rm (.ref (i + 1) :: As) h (fun r h' => zk_V p l e R s m args below meth c nL D dA b base Q (kc + rm.cells) (ks + rm.slots) nx ll (zk_push r rest) h')) : zk_V p l e R s m args below meth c nL D dA b base Q kc ks pc ll st h := by
  subst hn
  subst hst
  obtain ⟨c0, cs, c1, c2, c3⟩ := F
  obtain ⟨hx, hb, hml, hown, hK, hbs, hlk, hret, hnm⟩ := C
  intro H locs ls hl hP hz hS
  have hts := zk_T_at (args := args) hK
  have cb := va_cnB (host := host) n hts (zk_goodc c2) rfl rfl rfl (hK.2 _ c0 #[]) (hts _ c1) c3 hR
  refine zk_after (va_runIN (As := As.map (zk_v b base)) (rest := rest.map (zk_v b base)) (b := base + i) ⟨hx, hb, hml, hown, hts⟩ (sp D dA b base) ⟨cb, cs.2, hts _ cs.1⟩ ⟨zk_P_blind, fun U hU hW => ⟨rfl, by rw [hU]; exact hP, by rw [hU]; exact hz, zk_K_warm hW hK⟩⟩ rfl (by rw [List.length_map]; exact hna) hl.1 (by simp [List.map_append, List.map_reverse, zk_v, zk_ad]) (lv_room (by rw [zk_sum]; exact hr8)) hd hf) hl hS (fun r h' q => q)
theorem zr_callS0 (C : zk_C p s m meth c cc nL own nm ret D dA base sz) {idx maxL : Nat} {y : MethodName} {bytes : ByteArray} {rt : Option FieldType} (F : zk_LS own idx y bytes maxL rt 0) (hd : decode cc pc = .ok (.invokestatic idx, 3)) {nx : Nat} (hn : pc + 3 = nx) {rm : Room} (hR : rm.frames + 1 ≤ R.frames ∧ 8 + (maxL + 11) + rm.locals ≤ R.locals) (hr8 : (st.map fun v => v.category).sum ≤ 8) (hf : kc + rm.cells ≤ R.cells ∧ ks + rm.slots ≤ R.slots) (sp : zk_S l y bytes maxL rt rm [] h (fun r h' => zk_V p l e R s m args below meth c nL D dA b base Q (kc + rm.cells) (ks + rm.slots) nx ll (zk_push r st) h')) : zk_V p l e R s m args below meth c nL D dA b base Q kc ks pc ll (st) h := zr_callS C F hd hn [] st rfl rfl hR hr8 hf sp
theorem zr_callS1 (C : zk_C p s m meth c cc nL own nm ret D dA base sz) {idx maxL : Nat} {y : MethodName} {bytes : ByteArray} {rt : Option FieldType} (F : zk_LS own idx y bytes maxL rt 1) (hd : decode cc pc = .ok (.invokestatic idx, 3)) {nx : Nat} (hn : pc + 3 = nx) {a1 : Value} {rm : Room} (hR : rm.frames + 1 ≤ R.frames ∧ 8 + (maxL + 11) + rm.locals ≤ R.locals) (hr8 : (st.map fun v => v.category).sum ≤ 8) (hf : kc + rm.cells ≤ R.cells ∧ ks + rm.slots ≤ R.slots) (sp : zk_S l y bytes maxL rt rm [a1] h (fun r h' => zk_V p l e R s m args below meth c nL D dA b base Q (kc + rm.cells) (ks + rm.slots) nx ll (zk_push r st) h')) : zk_V p l e R s m args below meth c nL D dA b base Q kc ks pc ll (a1 :: st) h := zr_callS C F hd hn [a1] st rfl rfl hR hr8 hf sp
theorem zr_callS2 (C : zk_C p s m meth c cc nL own nm ret D dA base sz) {idx maxL : Nat} {y : MethodName} {bytes : ByteArray} {rt : Option FieldType} (F : zk_LS own idx y bytes maxL rt 2) (hd : decode cc pc = .ok (.invokestatic idx, 3)) {nx : Nat} (hn : pc + 3 = nx) {a1 a2 : Value} {rm : Room} (hR : rm.frames + 1 ≤ R.frames ∧ 8 + (maxL + 11) + rm.locals ≤ R.locals) (hr8 : (st.map fun v => v.category).sum ≤ 8) (hf : kc + rm.cells ≤ R.cells ∧ ks + rm.slots ≤ R.slots) (sp : zk_S l y bytes maxL rt rm [a1, a2] h (fun r h' => zk_V p l e R s m args below meth c nL D dA b base Q (kc + rm.cells) (ks + rm.slots) nx ll (zk_push r st) h')) : zk_V p l e R s m args below meth c nL D dA b base Q kc ks pc ll (a2 :: a1 :: st) h := zr_callS C F hd hn [a1, a2] st rfl rfl hR hr8 hf sp
theorem zr_callS3 (C : zk_C p s m meth c cc nL own nm ret D dA base sz) {idx maxL : Nat} {y : MethodName} {bytes : ByteArray} {rt : Option FieldType} (F : zk_LS own idx y bytes maxL rt 3) (hd : decode cc pc = .ok (.invokestatic idx, 3)) {nx : Nat} (hn : pc + 3 = nx) {a1 a2 a3 : Value} {rm : Room} (hR : rm.frames + 1 ≤ R.frames ∧ 8 + (maxL + 11) + rm.locals ≤ R.locals) (hr8 : (st.map fun v => v.category).sum ≤ 8) (hf : kc + rm.cells ≤ R.cells ∧ ks + rm.slots ≤ R.slots) (sp : zk_S l y bytes maxL rt rm [a1, a2, a3] h (fun r h' => zk_V p l e R s m args below meth c nL D dA b base Q (kc + rm.cells) (ks + rm.slots) nx ll (zk_push r st) h')) : zk_V p l e R s m args below meth c nL D dA b base Q kc ks pc ll (a3 :: a2 :: a1 :: st) h := zr_callS C F hd hn [a1, a2, a3] st rfl rfl hR hr8 hf sp
theorem zr_callS4 (C : zk_C p s m meth c cc nL own nm ret D dA base sz) {idx maxL : Nat} {y : MethodName} {bytes : ByteArray} {rt : Option FieldType} (F : zk_LS own idx y bytes maxL rt 4) (hd : decode cc pc = .ok (.invokestatic idx, 3)) {nx : Nat} (hn : pc + 3 = nx) {a1 a2 a3 a4 : Value} {rm : Room} (hR : rm.frames + 1 ≤ R.frames ∧ 8 + (maxL + 11) + rm.locals ≤ R.locals) (hr8 : (st.map fun v => v.category).sum ≤ 8) (hf : kc + rm.cells ≤ R.cells ∧ ks + rm.slots ≤ R.slots) (sp : zk_S l y bytes maxL rt rm [a1, a2, a3, a4] h (fun r h' => zk_V p l e R s m args below meth c nL D dA b base Q (kc + rm.cells) (ks + rm.slots) nx ll (zk_push r st) h')) : zk_V p l e R s m args below meth c nL D dA b base Q kc ks pc ll (a4 :: a3 :: a2 :: a1 :: st) h := zr_callS C F hd hn [a1, a2, a3, a4] st rfl rfl hR hr8 hf sp
theorem zr_callS5 (C : zk_C p s m meth c cc nL own nm ret D dA base sz) {idx maxL : Nat} {y : MethodName} {bytes : ByteArray} {rt : Option FieldType} (F : zk_LS own idx y bytes maxL rt 5) (hd : decode cc pc = .ok (.invokestatic idx, 3)) {nx : Nat} (hn : pc + 3 = nx) {a1 a2 a3 a4 a5 : Value} {rm : Room} (hR : rm.frames + 1 ≤ R.frames ∧ 8 + (maxL + 11) + rm.locals ≤ R.locals) (hr8 : (st.map fun v => v.category).sum ≤ 8) (hf : kc + rm.cells ≤ R.cells ∧ ks + rm.slots ≤ R.slots) (sp : zk_S l y bytes maxL rt rm [a1, a2, a3, a4, a5] h (fun r h' => zk_V p l e R s m args below meth c nL D dA b base Q (kc + rm.cells) (ks + rm.slots) nx ll (zk_push r st) h')) : zk_V p l e R s m args below meth c nL D dA b base Q kc ks pc ll (a5 :: a4 :: a3 :: a2 :: a1 :: st) h := zr_callS C F hd hn [a1, a2, a3, a4, a5] st rfl rfl hR hr8 hf sp
theorem zr_callS6 (C : zk_C p s m meth c cc nL own nm ret D dA base sz) {idx maxL : Nat} {y : MethodName} {bytes : ByteArray} {rt : Option FieldType} (F : zk_LS own idx y bytes maxL rt 6) (hd : decode cc pc = .ok (.invokestatic idx, 3)) {nx : Nat} (hn : pc + 3 = nx) {a1 a2 a3 a4 a5 a6 : Value} {rm : Room} (hR : rm.frames + 1 ≤ R.frames ∧ 8 + (maxL + 11) + rm.locals ≤ R.locals) (hr8 : (st.map fun v => v.category).sum ≤ 8) (hf : kc + rm.cells ≤ R.cells ∧ ks + rm.slots ≤ R.slots) (sp : zk_S l y bytes maxL rt rm [a1, a2, a3, a4, a5, a6] h (fun r h' => zk_V p l e R s m args below meth c nL D dA b base Q (kc + rm.cells) (ks + rm.slots) nx ll (zk_push r st) h')) : zk_V p l e R s m args below meth c nL D dA b base Q kc ks pc ll (a6 :: a5 :: a4 :: a3 :: a2 :: a1 :: st) h := zr_callS C F hd hn [a1, a2, a3, a4, a5, a6] st rfl rfl hR hr8 hf sp
theorem zr_callSN0 (C : zk_C p s m meth c cc nL own nm ret D dA base sz) {idx maxL : Nat} {y : MethodName} {bytes : ByteArray} {rt : Option FieldType} {host : String} (F : zk_LSN own idx y bytes maxL rt 0 host) (hd : decode cc pc = .ok (.invokestatic idx, 3)) {nx : Nat} (hn : pc + 3 = nx) {rm : Room} (hR : rm.frames + 1 ≤ R.frames ∧ 8 + (maxL + 11) + rm.locals ≤ R.locals) (hr8 : (st.map fun v => v.category).sum ≤ 8) (hf : kc + rm.cells ≤ R.cells ∧ ks + rm.slots ≤ R.slots) (sp : zk_S l y bytes maxL rt rm [] h (fun r h' => zk_V p l e R s m args below meth c nL D dA b base Q (kc + rm.cells) (ks + rm.slots) nx ll (zk_push r st) h')) : zk_V p l e R s m args below meth c nL D dA b base Q kc ks pc ll (st) h := zr_callSN C F hd hn [] st rfl rfl hR hr8 hf sp
theorem zr_callSN1 (C : zk_C p s m meth c cc nL own nm ret D dA base sz) {idx maxL : Nat} {y : MethodName} {bytes : ByteArray} {rt : Option FieldType} {host : String} (F : zk_LSN own idx y bytes maxL rt 1 host) (hd : decode cc pc = .ok (.invokestatic idx, 3)) {nx : Nat} (hn : pc + 3 = nx) {a1 : Value} {rm : Room} (hR : rm.frames + 1 ≤ R.frames ∧ 8 + (maxL + 11) + rm.locals ≤ R.locals) (hr8 : (st.map fun v => v.category).sum ≤ 8) (hf : kc + rm.cells ≤ R.cells ∧ ks + rm.slots ≤ R.slots) (sp : zk_S l y bytes maxL rt rm [a1] h (fun r h' => zk_V p l e R s m args below meth c nL D dA b base Q (kc + rm.cells) (ks + rm.slots) nx ll (zk_push r st) h')) : zk_V p l e R s m args below meth c nL D dA b base Q kc ks pc ll (a1 :: st) h := zr_callSN C F hd hn [a1] st rfl rfl hR hr8 hf sp
theorem zr_callSN2 (C : zk_C p s m meth c cc nL own nm ret D dA base sz) {idx maxL : Nat} {y : MethodName} {bytes : ByteArray} {rt : Option FieldType} {host : String} (F : zk_LSN own idx y bytes maxL rt 2 host) (hd : decode cc pc = .ok (.invokestatic idx, 3)) {nx : Nat} (hn : pc + 3 = nx) {a1 a2 : Value} {rm : Room} (hR : rm.frames + 1 ≤ R.frames ∧ 8 + (maxL + 11) + rm.locals ≤ R.locals) (hr8 : (st.map fun v => v.category).sum ≤ 8) (hf : kc + rm.cells ≤ R.cells ∧ ks + rm.slots ≤ R.slots) (sp : zk_S l y bytes maxL rt rm [a1, a2] h (fun r h' => zk_V p l e R s m args below meth c nL D dA b base Q (kc + rm.cells) (ks + rm.slots) nx ll (zk_push r st) h')) : zk_V p l e R s m args below meth c nL D dA b base Q kc ks pc ll (a2 :: a1 :: st) h := zr_callSN C F hd hn [a1, a2] st rfl rfl hR hr8 hf sp
theorem zr_callSN3 (C : zk_C p s m meth c cc nL own nm ret D dA base sz) {idx maxL : Nat} {y : MethodName} {bytes : ByteArray} {rt : Option FieldType} {host : String} (F : zk_LSN own idx y bytes maxL rt 3 host) (hd : decode cc pc = .ok (.invokestatic idx, 3)) {nx : Nat} (hn : pc + 3 = nx) {a1 a2 a3 : Value} {rm : Room} (hR : rm.frames + 1 ≤ R.frames ∧ 8 + (maxL + 11) + rm.locals ≤ R.locals) (hr8 : (st.map fun v => v.category).sum ≤ 8) (hf : kc + rm.cells ≤ R.cells ∧ ks + rm.slots ≤ R.slots) (sp : zk_S l y bytes maxL rt rm [a1, a2, a3] h (fun r h' => zk_V p l e R s m args below meth c nL D dA b base Q (kc + rm.cells) (ks + rm.slots) nx ll (zk_push r st) h')) : zk_V p l e R s m args below meth c nL D dA b base Q kc ks pc ll (a3 :: a2 :: a1 :: st) h := zr_callSN C F hd hn [a1, a2, a3] st rfl rfl hR hr8 hf sp
theorem zr_callSN4 (C : zk_C p s m meth c cc nL own nm ret D dA base sz) {idx maxL : Nat} {y : MethodName} {bytes : ByteArray} {rt : Option FieldType} {host : String} (F : zk_LSN own idx y bytes maxL rt 4 host) (hd : decode cc pc = .ok (.invokestatic idx, 3)) {nx : Nat} (hn : pc + 3 = nx) {a1 a2 a3 a4 : Value} {rm : Room} (hR : rm.frames + 1 ≤ R.frames ∧ 8 + (maxL + 11) + rm.locals ≤ R.locals) (hr8 : (st.map fun v => v.category).sum ≤ 8) (hf : kc + rm.cells ≤ R.cells ∧ ks + rm.slots ≤ R.slots) (sp : zk_S l y bytes maxL rt rm [a1, a2, a3, a4] h (fun r h' => zk_V p l e R s m args below meth c nL D dA b base Q (kc + rm.cells) (ks + rm.slots) nx ll (zk_push r st) h')) : zk_V p l e R s m args below meth c nL D dA b base Q kc ks pc ll (a4 :: a3 :: a2 :: a1 :: st) h := zr_callSN C F hd hn [a1, a2, a3, a4] st rfl rfl hR hr8 hf sp
theorem zr_callSN5 (C : zk_C p s m meth c cc nL own nm ret D dA base sz) {idx maxL : Nat} {y : MethodName} {bytes : ByteArray} {rt : Option FieldType} {host : String} (F : zk_LSN own idx y bytes maxL rt 5 host) (hd : decode cc pc = .ok (.invokestatic idx, 3)) {nx : Nat} (hn : pc + 3 = nx) {a1 a2 a3 a4 a5 : Value} {rm : Room} (hR : rm.frames + 1 ≤ R.frames ∧ 8 + (maxL + 11) + rm.locals ≤ R.locals) (hr8 : (st.map fun v => v.category).sum ≤ 8) (hf : kc + rm.cells ≤ R.cells ∧ ks + rm.slots ≤ R.slots) (sp : zk_S l y bytes maxL rt rm [a1, a2, a3, a4, a5] h (fun r h' => zk_V p l e R s m args below meth c nL D dA b base Q (kc + rm.cells) (ks + rm.slots) nx ll (zk_push r st) h')) : zk_V p l e R s m args below meth c nL D dA b base Q kc ks pc ll (a5 :: a4 :: a3 :: a2 :: a1 :: st) h := zr_callSN C F hd hn [a1, a2, a3, a4, a5] st rfl rfl hR hr8 hf sp
theorem zr_callSN6 (C : zk_C p s m meth c cc nL own nm ret D dA base sz) {idx maxL : Nat} {y : MethodName} {bytes : ByteArray} {rt : Option FieldType} {host : String} (F : zk_LSN own idx y bytes maxL rt 6 host) (hd : decode cc pc = .ok (.invokestatic idx, 3)) {nx : Nat} (hn : pc + 3 = nx) {a1 a2 a3 a4 a5 a6 : Value} {rm : Room} (hR : rm.frames + 1 ≤ R.frames ∧ 8 + (maxL + 11) + rm.locals ≤ R.locals) (hr8 : (st.map fun v => v.category).sum ≤ 8) (hf : kc + rm.cells ≤ R.cells ∧ ks + rm.slots ≤ R.slots) (sp : zk_S l y bytes maxL rt rm [a1, a2, a3, a4, a5, a6] h (fun r h' => zk_V p l e R s m args below meth c nL D dA b base Q (kc + rm.cells) (ks + rm.slots) nx ll (zk_push r st) h')) : zk_V p l e R s m args below meth c nL D dA b base Q kc ks pc ll (a6 :: a5 :: a4 :: a3 :: a2 :: a1 :: st) h := zr_callSN C F hd hn [a1, a2, a3, a4, a5, a6] st rfl rfl hR hr8 hf sp
theorem zr_callV0 (C : zk_C p s m meth c cc nL own nm ret D dA base sz) {idx maxL : Nat} {y : MethodName} {bytes : ByteArray} {rt : Option FieldType} (F : zk_LV own idx y bytes maxL rt 0) (hd : decode cc pc = .ok (.invokevirtual idx, 3)) {nx : Nat} (hn : pc + 3 = nx) {rm : Room} {i : Nat} {ci : Nat} {fs : List Value} {T : u_T} {N : Nat} (hh : h[i]? = some (.inr (ci, fs))) (hc : vwCl[ci]? = some (y.cls, T, N)) (hR : rm.frames + 1 ≤ R.frames ∧ 8 + (maxL + 11) + rm.locals ≤ R.locals) (hr8 : (st.map fun v => v.category).sum ≤ 8) (hf : kc + rm.cells ≤ R.cells ∧ ks + rm.slots ≤ R.slots) (sp : zk_S l y bytes maxL rt rm (.ref (i + 1) :: []) h (fun r h' => zk_V p l e R s m args below meth c nL D dA b base Q (kc + rm.cells) (ks + rm.slots) nx ll (zk_push r st) h')) : zk_V p l e R s m args below meth c nL D dA b base Q kc ks pc ll (.ref (i + 1) :: st) h := zr_callV C F hd hn [] st rfl rfl hh hc hR hr8 hf sp
theorem zr_callV1 (C : zk_C p s m meth c cc nL own nm ret D dA base sz) {idx maxL : Nat} {y : MethodName} {bytes : ByteArray} {rt : Option FieldType} (F : zk_LV own idx y bytes maxL rt 1) (hd : decode cc pc = .ok (.invokevirtual idx, 3)) {nx : Nat} (hn : pc + 3 = nx) {a1 : Value} {rm : Room} {i : Nat} {ci : Nat} {fs : List Value} {T : u_T} {N : Nat} (hh : h[i]? = some (.inr (ci, fs))) (hc : vwCl[ci]? = some (y.cls, T, N)) (hR : rm.frames + 1 ≤ R.frames ∧ 8 + (maxL + 11) + rm.locals ≤ R.locals) (hr8 : (st.map fun v => v.category).sum ≤ 8) (hf : kc + rm.cells ≤ R.cells ∧ ks + rm.slots ≤ R.slots) (sp : zk_S l y bytes maxL rt rm (.ref (i + 1) :: [a1]) h (fun r h' => zk_V p l e R s m args below meth c nL D dA b base Q (kc + rm.cells) (ks + rm.slots) nx ll (zk_push r st) h')) : zk_V p l e R s m args below meth c nL D dA b base Q kc ks pc ll (a1 :: .ref (i + 1) :: st) h := zr_callV C F hd hn [a1] st rfl rfl hh hc hR hr8 hf sp
theorem zr_callV2 (C : zk_C p s m meth c cc nL own nm ret D dA base sz) {idx maxL : Nat} {y : MethodName} {bytes : ByteArray} {rt : Option FieldType} (F : zk_LV own idx y bytes maxL rt 2) (hd : decode cc pc = .ok (.invokevirtual idx, 3)) {nx : Nat} (hn : pc + 3 = nx) {a1 a2 : Value} {rm : Room} {i : Nat} {ci : Nat} {fs : List Value} {T : u_T} {N : Nat} (hh : h[i]? = some (.inr (ci, fs))) (hc : vwCl[ci]? = some (y.cls, T, N)) (hR : rm.frames + 1 ≤ R.frames ∧ 8 + (maxL + 11) + rm.locals ≤ R.locals) (hr8 : (st.map fun v => v.category).sum ≤ 8) (hf : kc + rm.cells ≤ R.cells ∧ ks + rm.slots ≤ R.slots) (sp : zk_S l y bytes maxL rt rm (.ref (i + 1) :: [a1, a2]) h (fun r h' => zk_V p l e R s m args below meth c nL D dA b base Q (kc + rm.cells) (ks + rm.slots) nx ll (zk_push r st) h')) : zk_V p l e R s m args below meth c nL D dA b base Q kc ks pc ll (a2 :: a1 :: .ref (i + 1) :: st) h := zr_callV C F hd hn [a1, a2] st rfl rfl hh hc hR hr8 hf sp
theorem zr_callV3 (C : zk_C p s m meth c cc nL own nm ret D dA base sz) {idx maxL : Nat} {y : MethodName} {bytes : ByteArray} {rt : Option FieldType} (F : zk_LV own idx y bytes maxL rt 3) (hd : decode cc pc = .ok (.invokevirtual idx, 3)) {nx : Nat} (hn : pc + 3 = nx) {a1 a2 a3 : Value} {rm : Room} {i : Nat} {ci : Nat} {fs : List Value} {T : u_T} {N : Nat} (hh : h[i]? = some (.inr (ci, fs))) (hc : vwCl[ci]? = some (y.cls, T, N)) (hR : rm.frames + 1 ≤ R.frames ∧ 8 + (maxL + 11) + rm.locals ≤ R.locals) (hr8 : (st.map fun v => v.category).sum ≤ 8) (hf : kc + rm.cells ≤ R.cells ∧ ks + rm.slots ≤ R.slots) (sp : zk_S l y bytes maxL rt rm (.ref (i + 1) :: [a1, a2, a3]) h (fun r h' => zk_V p l e R s m args below meth c nL D dA b base Q (kc + rm.cells) (ks + rm.slots) nx ll (zk_push r st) h')) : zk_V p l e R s m args below meth c nL D dA b base Q kc ks pc ll (a3 :: a2 :: a1 :: .ref (i + 1) :: st) h := zr_callV C F hd hn [a1, a2, a3] st rfl rfl hh hc hR hr8 hf sp
theorem zr_callV4 (C : zk_C p s m meth c cc nL own nm ret D dA base sz) {idx maxL : Nat} {y : MethodName} {bytes : ByteArray} {rt : Option FieldType} (F : zk_LV own idx y bytes maxL rt 4) (hd : decode cc pc = .ok (.invokevirtual idx, 3)) {nx : Nat} (hn : pc + 3 = nx) {a1 a2 a3 a4 : Value} {rm : Room} {i : Nat} {ci : Nat} {fs : List Value} {T : u_T} {N : Nat} (hh : h[i]? = some (.inr (ci, fs))) (hc : vwCl[ci]? = some (y.cls, T, N)) (hR : rm.frames + 1 ≤ R.frames ∧ 8 + (maxL + 11) + rm.locals ≤ R.locals) (hr8 : (st.map fun v => v.category).sum ≤ 8) (hf : kc + rm.cells ≤ R.cells ∧ ks + rm.slots ≤ R.slots) (sp : zk_S l y bytes maxL rt rm (.ref (i + 1) :: [a1, a2, a3, a4]) h (fun r h' => zk_V p l e R s m args below meth c nL D dA b base Q (kc + rm.cells) (ks + rm.slots) nx ll (zk_push r st) h')) : zk_V p l e R s m args below meth c nL D dA b base Q kc ks pc ll (a4 :: a3 :: a2 :: a1 :: .ref (i + 1) :: st) h := zr_callV C F hd hn [a1, a2, a3, a4] st rfl rfl hh hc hR hr8 hf sp
theorem zr_callV5 (C : zk_C p s m meth c cc nL own nm ret D dA base sz) {idx maxL : Nat} {y : MethodName} {bytes : ByteArray} {rt : Option FieldType} (F : zk_LV own idx y bytes maxL rt 5) (hd : decode cc pc = .ok (.invokevirtual idx, 3)) {nx : Nat} (hn : pc + 3 = nx) {a1 a2 a3 a4 a5 : Value} {rm : Room} {i : Nat} {ci : Nat} {fs : List Value} {T : u_T} {N : Nat} (hh : h[i]? = some (.inr (ci, fs))) (hc : vwCl[ci]? = some (y.cls, T, N)) (hR : rm.frames + 1 ≤ R.frames ∧ 8 + (maxL + 11) + rm.locals ≤ R.locals) (hr8 : (st.map fun v => v.category).sum ≤ 8) (hf : kc + rm.cells ≤ R.cells ∧ ks + rm.slots ≤ R.slots) (sp : zk_S l y bytes maxL rt rm (.ref (i + 1) :: [a1, a2, a3, a4, a5]) h (fun r h' => zk_V p l e R s m args below meth c nL D dA b base Q (kc + rm.cells) (ks + rm.slots) nx ll (zk_push r st) h')) : zk_V p l e R s m args below meth c nL D dA b base Q kc ks pc ll (a5 :: a4 :: a3 :: a2 :: a1 :: .ref (i + 1) :: st) h := zr_callV C F hd hn [a1, a2, a3, a4, a5] st rfl rfl hh hc hR hr8 hf sp
theorem zr_callV6 (C : zk_C p s m meth c cc nL own nm ret D dA base sz) {idx maxL : Nat} {y : MethodName} {bytes : ByteArray} {rt : Option FieldType} (F : zk_LV own idx y bytes maxL rt 6) (hd : decode cc pc = .ok (.invokevirtual idx, 3)) {nx : Nat} (hn : pc + 3 = nx) {a1 a2 a3 a4 a5 a6 : Value} {rm : Room} {i : Nat} {ci : Nat} {fs : List Value} {T : u_T} {N : Nat} (hh : h[i]? = some (.inr (ci, fs))) (hc : vwCl[ci]? = some (y.cls, T, N)) (hR : rm.frames + 1 ≤ R.frames ∧ 8 + (maxL + 11) + rm.locals ≤ R.locals) (hr8 : (st.map fun v => v.category).sum ≤ 8) (hf : kc + rm.cells ≤ R.cells ∧ ks + rm.slots ≤ R.slots) (sp : zk_S l y bytes maxL rt rm (.ref (i + 1) :: [a1, a2, a3, a4, a5, a6]) h (fun r h' => zk_V p l e R s m args below meth c nL D dA b base Q (kc + rm.cells) (ks + rm.slots) nx ll (zk_push r st) h')) : zk_V p l e R s m args below meth c nL D dA b base Q kc ks pc ll (a6 :: a5 :: a4 :: a3 :: a2 :: a1 :: .ref (i + 1) :: st) h := zr_callV C F hd hn [a1, a2, a3, a4, a5, a6] st rfl rfl hh hc hR hr8 hf sp
theorem zr_callVN0 (C : zk_C p s m meth c cc nL own nm ret D dA base sz) {idx maxL : Nat} {y : MethodName} {bytes : ByteArray} {rt : Option FieldType} {host : String} (F : zk_LVN own idx y bytes maxL rt 0 host) (hd : decode cc pc = .ok (.invokevirtual idx, 3)) {nx : Nat} (hn : pc + 3 = nx) {rm : Room} {i : Nat} {ci : Nat} {fs : List Value} {T : u_T} {N : Nat} (hh : h[i]? = some (.inr (ci, fs))) (hc : vwCl[ci]? = some (y.cls, T, N)) (hR : rm.frames + 1 ≤ R.frames ∧ 8 + (maxL + 11) + rm.locals ≤ R.locals) (hr8 : (st.map fun v => v.category).sum ≤ 8) (hf : kc + rm.cells ≤ R.cells ∧ ks + rm.slots ≤ R.slots) (sp : zk_S l y bytes maxL rt rm (.ref (i + 1) :: []) h (fun r h' => zk_V p l e R s m args below meth c nL D dA b base Q (kc + rm.cells) (ks + rm.slots) nx ll (zk_push r st) h')) : zk_V p l e R s m args below meth c nL D dA b base Q kc ks pc ll (.ref (i + 1) :: st) h := zr_callVN C F hd hn [] st rfl rfl hh hc hR hr8 hf sp
theorem zr_callVN1 (C : zk_C p s m meth c cc nL own nm ret D dA base sz) {idx maxL : Nat} {y : MethodName} {bytes : ByteArray} {rt : Option FieldType} {host : String} (F : zk_LVN own idx y bytes maxL rt 1 host) (hd : decode cc pc = .ok (.invokevirtual idx, 3)) {nx : Nat} (hn : pc + 3 = nx) {a1 : Value} {rm : Room} {i : Nat} {ci : Nat} {fs : List Value} {T : u_T} {N : Nat} (hh : h[i]? = some (.inr (ci, fs))) (hc : vwCl[ci]? = some (y.cls, T, N)) (hR : rm.frames + 1 ≤ R.frames ∧ 8 + (maxL + 11) + rm.locals ≤ R.locals) (hr8 : (st.map fun v => v.category).sum ≤ 8) (hf : kc + rm.cells ≤ R.cells ∧ ks + rm.slots ≤ R.slots) (sp : zk_S l y bytes maxL rt rm (.ref (i + 1) :: [a1]) h (fun r h' => zk_V p l e R s m args below meth c nL D dA b base Q (kc + rm.cells) (ks + rm.slots) nx ll (zk_push r st) h')) : zk_V p l e R s m args below meth c nL D dA b base Q kc ks pc ll (a1 :: .ref (i + 1) :: st) h := zr_callVN C F hd hn [a1] st rfl rfl hh hc hR hr8 hf sp
theorem zr_callVN2 (C : zk_C p s m meth c cc nL own nm ret D dA base sz) {idx maxL : Nat} {y : MethodName} {bytes : ByteArray} {rt : Option FieldType} {host : String} (F : zk_LVN own idx y bytes maxL rt 2 host) (hd : decode cc pc = .ok (.invokevirtual idx, 3)) {nx : Nat} (hn : pc + 3 = nx) {a1 a2 : Value} {rm : Room} {i : Nat} {ci : Nat} {fs : List Value} {T : u_T} {N : Nat} (hh : h[i]? = some (.inr (ci, fs))) (hc : vwCl[ci]? = some (y.cls, T, N)) (hR : rm.frames + 1 ≤ R.frames ∧ 8 + (maxL + 11) + rm.locals ≤ R.locals) (hr8 : (st.map fun v => v.category).sum ≤ 8) (hf : kc + rm.cells ≤ R.cells ∧ ks + rm.slots ≤ R.slots) (sp : zk_S l y bytes maxL rt rm (.ref (i + 1) :: [a1, a2]) h (fun r h' => zk_V p l e R s m args below meth c nL D dA b base Q (kc + rm.cells) (ks + rm.slots) nx ll (zk_push r st) h')) : zk_V p l e R s m args below meth c nL D dA b base Q kc ks pc ll (a2 :: a1 :: .ref (i + 1) :: st) h := zr_callVN C F hd hn [a1, a2] st rfl rfl hh hc hR hr8 hf sp
theorem zr_callVN3 (C : zk_C p s m meth c cc nL own nm ret D dA base sz) {idx maxL : Nat} {y : MethodName} {bytes : ByteArray} {rt : Option FieldType} {host : String} (F : zk_LVN own idx y bytes maxL rt 3 host) (hd : decode cc pc = .ok (.invokevirtual idx, 3)) {nx : Nat} (hn : pc + 3 = nx) {a1 a2 a3 : Value} {rm : Room} {i : Nat} {ci : Nat} {fs : List Value} {T : u_T} {N : Nat} (hh : h[i]? = some (.inr (ci, fs))) (hc : vwCl[ci]? = some (y.cls, T, N)) (hR : rm.frames + 1 ≤ R.frames ∧ 8 + (maxL + 11) + rm.locals ≤ R.locals) (hr8 : (st.map fun v => v.category).sum ≤ 8) (hf : kc + rm.cells ≤ R.cells ∧ ks + rm.slots ≤ R.slots) (sp : zk_S l y bytes maxL rt rm (.ref (i + 1) :: [a1, a2, a3]) h (fun r h' => zk_V p l e R s m args below meth c nL D dA b base Q (kc + rm.cells) (ks + rm.slots) nx ll (zk_push r st) h')) : zk_V p l e R s m args below meth c nL D dA b base Q kc ks pc ll (a3 :: a2 :: a1 :: .ref (i + 1) :: st) h := zr_callVN C F hd hn [a1, a2, a3] st rfl rfl hh hc hR hr8 hf sp
theorem zr_callVN4 (C : zk_C p s m meth c cc nL own nm ret D dA base sz) {idx maxL : Nat} {y : MethodName} {bytes : ByteArray} {rt : Option FieldType} {host : String} (F : zk_LVN own idx y bytes maxL rt 4 host) (hd : decode cc pc = .ok (.invokevirtual idx, 3)) {nx : Nat} (hn : pc + 3 = nx) {a1 a2 a3 a4 : Value} {rm : Room} {i : Nat} {ci : Nat} {fs : List Value} {T : u_T} {N : Nat} (hh : h[i]? = some (.inr (ci, fs))) (hc : vwCl[ci]? = some (y.cls, T, N)) (hR : rm.frames + 1 ≤ R.frames ∧ 8 + (maxL + 11) + rm.locals ≤ R.locals) (hr8 : (st.map fun v => v.category).sum ≤ 8) (hf : kc + rm.cells ≤ R.cells ∧ ks + rm.slots ≤ R.slots) (sp : zk_S l y bytes maxL rt rm (.ref (i + 1) :: [a1, a2, a3, a4]) h (fun r h' => zk_V p l e R s m args below meth c nL D dA b base Q (kc + rm.cells) (ks + rm.slots) nx ll (zk_push r st) h')) : zk_V p l e R s m args below meth c nL D dA b base Q kc ks pc ll (a4 :: a3 :: a2 :: a1 :: .ref (i + 1) :: st) h := zr_callVN C F hd hn [a1, a2, a3, a4] st rfl rfl hh hc hR hr8 hf sp
theorem zr_callVN5 (C : zk_C p s m meth c cc nL own nm ret D dA base sz) {idx maxL : Nat} {y : MethodName} {bytes : ByteArray} {rt : Option FieldType} {host : String} (F : zk_LVN own idx y bytes maxL rt 5 host) (hd : decode cc pc = .ok (.invokevirtual idx, 3)) {nx : Nat} (hn : pc + 3 = nx) {a1 a2 a3 a4 a5 : Value} {rm : Room} {i : Nat} {ci : Nat} {fs : List Value} {T : u_T} {N : Nat} (hh : h[i]? = some (.inr (ci, fs))) (hc : vwCl[ci]? = some (y.cls, T, N)) (hR : rm.frames + 1 ≤ R.frames ∧ 8 + (maxL + 11) + rm.locals ≤ R.locals) (hr8 : (st.map fun v => v.category).sum ≤ 8) (hf : kc + rm.cells ≤ R.cells ∧ ks + rm.slots ≤ R.slots) (sp : zk_S l y bytes maxL rt rm (.ref (i + 1) :: [a1, a2, a3, a4, a5]) h (fun r h' => zk_V p l e R s m args below meth c nL D dA b base Q (kc + rm.cells) (ks + rm.slots) nx ll (zk_push r st) h')) : zk_V p l e R s m args below meth c nL D dA b base Q kc ks pc ll (a5 :: a4 :: a3 :: a2 :: a1 :: .ref (i + 1) :: st) h := zr_callVN C F hd hn [a1, a2, a3, a4, a5] st rfl rfl hh hc hR hr8 hf sp
theorem zr_callVN6 (C : zk_C p s m meth c cc nL own nm ret D dA base sz) {idx maxL : Nat} {y : MethodName} {bytes : ByteArray} {rt : Option FieldType} {host : String} (F : zk_LVN own idx y bytes maxL rt 6 host) (hd : decode cc pc = .ok (.invokevirtual idx, 3)) {nx : Nat} (hn : pc + 3 = nx) {a1 a2 a3 a4 a5 a6 : Value} {rm : Room} {i : Nat} {ci : Nat} {fs : List Value} {T : u_T} {N : Nat} (hh : h[i]? = some (.inr (ci, fs))) (hc : vwCl[ci]? = some (y.cls, T, N)) (hR : rm.frames + 1 ≤ R.frames ∧ 8 + (maxL + 11) + rm.locals ≤ R.locals) (hr8 : (st.map fun v => v.category).sum ≤ 8) (hf : kc + rm.cells ≤ R.cells ∧ ks + rm.slots ≤ R.slots) (sp : zk_S l y bytes maxL rt rm (.ref (i + 1) :: [a1, a2, a3, a4, a5, a6]) h (fun r h' => zk_V p l e R s m args below meth c nL D dA b base Q (kc + rm.cells) (ks + rm.slots) nx ll (zk_push r st) h')) : zk_V p l e R s m args below meth c nL D dA b base Q kc ks pc ll (a6 :: a5 :: a4 :: a3 :: a2 :: a1 :: .ref (i + 1) :: st) h := zr_callVN C F hd hn [a1, a2, a3, a4, a5, a6] st rfl rfl hh hc hR hr8 hf sp
theorem zr_callI0 (C : zk_C p s m meth c cc nL own nm ret D dA base sz) {idx maxL : Nat} {y : MethodName} {bytes : ByteArray} (F : zk_LI own idx y bytes maxL 0) (hd : decode cc pc = .ok (.invokespecial idx, 3)) {nx : Nat} (hn : pc + 3 = nx) {rm : Room} {i : Nat} (hR : rm.frames + 1 ≤ R.frames ∧ 8 + (maxL + 11) + rm.locals ≤ R.locals) (hr8 : (st.map fun v => v.category).sum ≤ 8) (hf : kc + rm.cells ≤ R.cells ∧ ks + rm.slots ≤ R.slots) (sp : zk_S l y bytes maxL none rm (.ref (i + 1) :: []) h (fun r h' => zk_V p l e R s m args below meth c nL D dA b base Q (kc + rm.cells) (ks + rm.slots) nx ll (zk_push r st) h')) : zk_V p l e R s m args below meth c nL D dA b base Q kc ks pc ll (.ref (i + 1) :: st) h := zr_callI C F hd hn [] st rfl rfl hR hr8 hf sp
theorem zr_callI1 (C : zk_C p s m meth c cc nL own nm ret D dA base sz) {idx maxL : Nat} {y : MethodName} {bytes : ByteArray} (F : zk_LI own idx y bytes maxL 1) (hd : decode cc pc = .ok (.invokespecial idx, 3)) {nx : Nat} (hn : pc + 3 = nx) {a1 : Value} {rm : Room} {i : Nat} (hR : rm.frames + 1 ≤ R.frames ∧ 8 + (maxL + 11) + rm.locals ≤ R.locals) (hr8 : (st.map fun v => v.category).sum ≤ 8) (hf : kc + rm.cells ≤ R.cells ∧ ks + rm.slots ≤ R.slots) (sp : zk_S l y bytes maxL none rm (.ref (i + 1) :: [a1]) h (fun r h' => zk_V p l e R s m args below meth c nL D dA b base Q (kc + rm.cells) (ks + rm.slots) nx ll (zk_push r st) h')) : zk_V p l e R s m args below meth c nL D dA b base Q kc ks pc ll (a1 :: .ref (i + 1) :: st) h := zr_callI C F hd hn [a1] st rfl rfl hR hr8 hf sp
theorem zr_callI2 (C : zk_C p s m meth c cc nL own nm ret D dA base sz) {idx maxL : Nat} {y : MethodName} {bytes : ByteArray} (F : zk_LI own idx y bytes maxL 2) (hd : decode cc pc = .ok (.invokespecial idx, 3)) {nx : Nat} (hn : pc + 3 = nx) {a1 a2 : Value} {rm : Room} {i : Nat} (hR : rm.frames + 1 ≤ R.frames ∧ 8 + (maxL + 11) + rm.locals ≤ R.locals) (hr8 : (st.map fun v => v.category).sum ≤ 8) (hf : kc + rm.cells ≤ R.cells ∧ ks + rm.slots ≤ R.slots) (sp : zk_S l y bytes maxL none rm (.ref (i + 1) :: [a1, a2]) h (fun r h' => zk_V p l e R s m args below meth c nL D dA b base Q (kc + rm.cells) (ks + rm.slots) nx ll (zk_push r st) h')) : zk_V p l e R s m args below meth c nL D dA b base Q kc ks pc ll (a2 :: a1 :: .ref (i + 1) :: st) h := zr_callI C F hd hn [a1, a2] st rfl rfl hR hr8 hf sp
theorem zr_callI3 (C : zk_C p s m meth c cc nL own nm ret D dA base sz) {idx maxL : Nat} {y : MethodName} {bytes : ByteArray} (F : zk_LI own idx y bytes maxL 3) (hd : decode cc pc = .ok (.invokespecial idx, 3)) {nx : Nat} (hn : pc + 3 = nx) {a1 a2 a3 : Value} {rm : Room} {i : Nat} (hR : rm.frames + 1 ≤ R.frames ∧ 8 + (maxL + 11) + rm.locals ≤ R.locals) (hr8 : (st.map fun v => v.category).sum ≤ 8) (hf : kc + rm.cells ≤ R.cells ∧ ks + rm.slots ≤ R.slots) (sp : zk_S l y bytes maxL none rm (.ref (i + 1) :: [a1, a2, a3]) h (fun r h' => zk_V p l e R s m args below meth c nL D dA b base Q (kc + rm.cells) (ks + rm.slots) nx ll (zk_push r st) h')) : zk_V p l e R s m args below meth c nL D dA b base Q kc ks pc ll (a3 :: a2 :: a1 :: .ref (i + 1) :: st) h := zr_callI C F hd hn [a1, a2, a3] st rfl rfl hR hr8 hf sp
theorem zr_callI4 (C : zk_C p s m meth c cc nL own nm ret D dA base sz) {idx maxL : Nat} {y : MethodName} {bytes : ByteArray} (F : zk_LI own idx y bytes maxL 4) (hd : decode cc pc = .ok (.invokespecial idx, 3)) {nx : Nat} (hn : pc + 3 = nx) {a1 a2 a3 a4 : Value} {rm : Room} {i : Nat} (hR : rm.frames + 1 ≤ R.frames ∧ 8 + (maxL + 11) + rm.locals ≤ R.locals) (hr8 : (st.map fun v => v.category).sum ≤ 8) (hf : kc + rm.cells ≤ R.cells ∧ ks + rm.slots ≤ R.slots) (sp : zk_S l y bytes maxL none rm (.ref (i + 1) :: [a1, a2, a3, a4]) h (fun r h' => zk_V p l e R s m args below meth c nL D dA b base Q (kc + rm.cells) (ks + rm.slots) nx ll (zk_push r st) h')) : zk_V p l e R s m args below meth c nL D dA b base Q kc ks pc ll (a4 :: a3 :: a2 :: a1 :: .ref (i + 1) :: st) h := zr_callI C F hd hn [a1, a2, a3, a4] st rfl rfl hR hr8 hf sp
theorem zr_callI5 (C : zk_C p s m meth c cc nL own nm ret D dA base sz) {idx maxL : Nat} {y : MethodName} {bytes : ByteArray} (F : zk_LI own idx y bytes maxL 5) (hd : decode cc pc = .ok (.invokespecial idx, 3)) {nx : Nat} (hn : pc + 3 = nx) {a1 a2 a3 a4 a5 : Value} {rm : Room} {i : Nat} (hR : rm.frames + 1 ≤ R.frames ∧ 8 + (maxL + 11) + rm.locals ≤ R.locals) (hr8 : (st.map fun v => v.category).sum ≤ 8) (hf : kc + rm.cells ≤ R.cells ∧ ks + rm.slots ≤ R.slots) (sp : zk_S l y bytes maxL none rm (.ref (i + 1) :: [a1, a2, a3, a4, a5]) h (fun r h' => zk_V p l e R s m args below meth c nL D dA b base Q (kc + rm.cells) (ks + rm.slots) nx ll (zk_push r st) h')) : zk_V p l e R s m args below meth c nL D dA b base Q kc ks pc ll (a5 :: a4 :: a3 :: a2 :: a1 :: .ref (i + 1) :: st) h := zr_callI C F hd hn [a1, a2, a3, a4, a5] st rfl rfl hR hr8 hf sp
theorem zr_callI6 (C : zk_C p s m meth c cc nL own nm ret D dA base sz) {idx maxL : Nat} {y : MethodName} {bytes : ByteArray} (F : zk_LI own idx y bytes maxL 6) (hd : decode cc pc = .ok (.invokespecial idx, 3)) {nx : Nat} (hn : pc + 3 = nx) {a1 a2 a3 a4 a5 a6 : Value} {rm : Room} {i : Nat} (hR : rm.frames + 1 ≤ R.frames ∧ 8 + (maxL + 11) + rm.locals ≤ R.locals) (hr8 : (st.map fun v => v.category).sum ≤ 8) (hf : kc + rm.cells ≤ R.cells ∧ ks + rm.slots ≤ R.slots) (sp : zk_S l y bytes maxL none rm (.ref (i + 1) :: [a1, a2, a3, a4, a5, a6]) h (fun r h' => zk_V p l e R s m args below meth c nL D dA b base Q (kc + rm.cells) (ks + rm.slots) nx ll (zk_push r st) h')) : zk_V p l e R s m args below meth c nL D dA b base Q kc ks pc ll (a6 :: a5 :: a4 :: a3 :: a2 :: a1 :: .ref (i + 1) :: st) h := zr_callI C F hd hn [a1, a2, a3, a4, a5, a6] st rfl rfl hR hr8 hf sp
theorem zr_callIN0 (C : zk_C p s m meth c cc nL own nm ret D dA base sz) {idx maxL : Nat} {y : MethodName} {bytes : ByteArray} {host : String} (F : zk_LIN own idx y bytes maxL 0 host) (hd : decode cc pc = .ok (.invokespecial idx, 3)) {nx : Nat} (hn : pc + 3 = nx) {rm : Room} {i : Nat} (hR : rm.frames + 1 ≤ R.frames ∧ 8 + (maxL + 11) + rm.locals ≤ R.locals) (hr8 : (st.map fun v => v.category).sum ≤ 8) (hf : kc + rm.cells ≤ R.cells ∧ ks + rm.slots ≤ R.slots) (sp : zk_S l y bytes maxL none rm (.ref (i + 1) :: []) h (fun r h' => zk_V p l e R s m args below meth c nL D dA b base Q (kc + rm.cells) (ks + rm.slots) nx ll (zk_push r st) h')) : zk_V p l e R s m args below meth c nL D dA b base Q kc ks pc ll (.ref (i + 1) :: st) h := zr_callIN C F hd hn [] st rfl rfl hR hr8 hf sp
theorem zr_callIN1 (C : zk_C p s m meth c cc nL own nm ret D dA base sz) {idx maxL : Nat} {y : MethodName} {bytes : ByteArray} {host : String} (F : zk_LIN own idx y bytes maxL 1 host) (hd : decode cc pc = .ok (.invokespecial idx, 3)) {nx : Nat} (hn : pc + 3 = nx) {a1 : Value} {rm : Room} {i : Nat} (hR : rm.frames + 1 ≤ R.frames ∧ 8 + (maxL + 11) + rm.locals ≤ R.locals) (hr8 : (st.map fun v => v.category).sum ≤ 8) (hf : kc + rm.cells ≤ R.cells ∧ ks + rm.slots ≤ R.slots) (sp : zk_S l y bytes maxL none rm (.ref (i + 1) :: [a1]) h (fun r h' => zk_V p l e R s m args below meth c nL D dA b base Q (kc + rm.cells) (ks + rm.slots) nx ll (zk_push r st) h')) : zk_V p l e R s m args below meth c nL D dA b base Q kc ks pc ll (a1 :: .ref (i + 1) :: st) h := zr_callIN C F hd hn [a1] st rfl rfl hR hr8 hf sp
theorem zr_callIN2 (C : zk_C p s m meth c cc nL own nm ret D dA base sz) {idx maxL : Nat} {y : MethodName} {bytes : ByteArray} {host : String} (F : zk_LIN own idx y bytes maxL 2 host) (hd : decode cc pc = .ok (.invokespecial idx, 3)) {nx : Nat} (hn : pc + 3 = nx) {a1 a2 : Value} {rm : Room} {i : Nat} (hR : rm.frames + 1 ≤ R.frames ∧ 8 + (maxL + 11) + rm.locals ≤ R.locals) (hr8 : (st.map fun v => v.category).sum ≤ 8) (hf : kc + rm.cells ≤ R.cells ∧ ks + rm.slots ≤ R.slots) (sp : zk_S l y bytes maxL none rm (.ref (i + 1) :: [a1, a2]) h (fun r h' => zk_V p l e R s m args below meth c nL D dA b base Q (kc + rm.cells) (ks + rm.slots) nx ll (zk_push r st) h')) : zk_V p l e R s m args below meth c nL D dA b base Q kc ks pc ll (a2 :: a1 :: .ref (i + 1) :: st) h := zr_callIN C F hd hn [a1, a2] st rfl rfl hR hr8 hf sp
theorem zr_callIN3 (C : zk_C p s m meth c cc nL own nm ret D dA base sz) {idx maxL : Nat} {y : MethodName} {bytes : ByteArray} {host : String} (F : zk_LIN own idx y bytes maxL 3 host) (hd : decode cc pc = .ok (.invokespecial idx, 3)) {nx : Nat} (hn : pc + 3 = nx) {a1 a2 a3 : Value} {rm : Room} {i : Nat} (hR : rm.frames + 1 ≤ R.frames ∧ 8 + (maxL + 11) + rm.locals ≤ R.locals) (hr8 : (st.map fun v => v.category).sum ≤ 8) (hf : kc + rm.cells ≤ R.cells ∧ ks + rm.slots ≤ R.slots) (sp : zk_S l y bytes maxL none rm (.ref (i + 1) :: [a1, a2, a3]) h (fun r h' => zk_V p l e R s m args below meth c nL D dA b base Q (kc + rm.cells) (ks + rm.slots) nx ll (zk_push r st) h')) : zk_V p l e R s m args below meth c nL D dA b base Q kc ks pc ll (a3 :: a2 :: a1 :: .ref (i + 1) :: st) h := zr_callIN C F hd hn [a1, a2, a3] st rfl rfl hR hr8 hf sp
theorem zr_callIN4 (C : zk_C p s m meth c cc nL own nm ret D dA base sz) {idx maxL : Nat} {y : MethodName} {bytes : ByteArray} {host : String} (F : zk_LIN own idx y bytes maxL 4 host) (hd : decode cc pc = .ok (.invokespecial idx, 3)) {nx : Nat} (hn : pc + 3 = nx) {a1 a2 a3 a4 : Value} {rm : Room} {i : Nat} (hR : rm.frames + 1 ≤ R.frames ∧ 8 + (maxL + 11) + rm.locals ≤ R.locals) (hr8 : (st.map fun v => v.category).sum ≤ 8) (hf : kc + rm.cells ≤ R.cells ∧ ks + rm.slots ≤ R.slots) (sp : zk_S l y bytes maxL none rm (.ref (i + 1) :: [a1, a2, a3, a4]) h (fun r h' => zk_V p l e R s m args below meth c nL D dA b base Q (kc + rm.cells) (ks + rm.slots) nx ll (zk_push r st) h')) : zk_V p l e R s m args below meth c nL D dA b base Q kc ks pc ll (a4 :: a3 :: a2 :: a1 :: .ref (i + 1) :: st) h := zr_callIN C F hd hn [a1, a2, a3, a4] st rfl rfl hR hr8 hf sp
theorem zr_callIN5 (C : zk_C p s m meth c cc nL own nm ret D dA base sz) {idx maxL : Nat} {y : MethodName} {bytes : ByteArray} {host : String} (F : zk_LIN own idx y bytes maxL 5 host) (hd : decode cc pc = .ok (.invokespecial idx, 3)) {nx : Nat} (hn : pc + 3 = nx) {a1 a2 a3 a4 a5 : Value} {rm : Room} {i : Nat} (hR : rm.frames + 1 ≤ R.frames ∧ 8 + (maxL + 11) + rm.locals ≤ R.locals) (hr8 : (st.map fun v => v.category).sum ≤ 8) (hf : kc + rm.cells ≤ R.cells ∧ ks + rm.slots ≤ R.slots) (sp : zk_S l y bytes maxL none rm (.ref (i + 1) :: [a1, a2, a3, a4, a5]) h (fun r h' => zk_V p l e R s m args below meth c nL D dA b base Q (kc + rm.cells) (ks + rm.slots) nx ll (zk_push r st) h')) : zk_V p l e R s m args below meth c nL D dA b base Q kc ks pc ll (a5 :: a4 :: a3 :: a2 :: a1 :: .ref (i + 1) :: st) h := zr_callIN C F hd hn [a1, a2, a3, a4, a5] st rfl rfl hR hr8 hf sp
theorem zr_callIN6 (C : zk_C p s m meth c cc nL own nm ret D dA base sz) {idx maxL : Nat} {y : MethodName} {bytes : ByteArray} {host : String} (F : zk_LIN own idx y bytes maxL 6 host) (hd : decode cc pc = .ok (.invokespecial idx, 3)) {nx : Nat} (hn : pc + 3 = nx) {a1 a2 a3 a4 a5 a6 : Value} {rm : Room} {i : Nat} (hR : rm.frames + 1 ≤ R.frames ∧ 8 + (maxL + 11) + rm.locals ≤ R.locals) (hr8 : (st.map fun v => v.category).sum ≤ 8) (hf : kc + rm.cells ≤ R.cells ∧ ks + rm.slots ≤ R.slots) (sp : zk_S l y bytes maxL none rm (.ref (i + 1) :: [a1, a2, a3, a4, a5, a6]) h (fun r h' => zk_V p l e R s m args below meth c nL D dA b base Q (kc + rm.cells) (ks + rm.slots) nx ll (zk_push r st) h')) : zk_V p l e R s m args below meth c nL D dA b base Q kc ks pc ll (a6 :: a5 :: a4 :: a3 :: a2 :: a1 :: .ref (i + 1) :: st) h := zr_callIN C F hd hn [a1, a2, a3, a4, a5, a6] st rfl rfl hR hr8 hf sp
def zk_AC (own : String) (idx : Nat) : Prop := Cond.methodLink own idx arraycopyName ∈ zk_tb ∧ Cond.native arraycopyName ∈ zk_tb ∧ Cond.static arraycopyName ∈ zk_tb ∧ Cond.initialized "java/lang/System" ∈ zk_tb
theorem zr_copyi (C : zk_C p s m meth c cc nL own nm ret D dA base sz) {idx : Nat} (F : zk_AC own idx) (hd : decode cc pc = .ok (.invokestatic idx, 3)) {n : Nat} (hn : pc + 3 = n) {i0 i1 n0 n1 N : Nat} {f g : Nat → Int32} {x : Int32} (hh0 : h[i0]? = some (.inl (0, n0, .inl f))) (hh1 : h[i1]? = some (.inl (0, n1, .inl g))) (h3 : ¬ x < 0) (hN : x.toNatClampNeg = N) (h4 : N ≤ n0) (h5 : N ≤ n1) (hsz : sz + kc = h.length) (hfr : 1 ≤ R.frames) (hlo : (st.map fun v => v.category).sum + (nativeFrameWords "java/lang/System" "arraycopy" 5 + 11) ≤ R.locals) (k : zk_V p l e R s m args below meth c nL D dA b base Q kc ks n ll st (h.set i1 (.inl (0, n1, .inl (va_cpy f g 0 0 N))))) : zk_V p l e R s m args below meth c nL D dA b base Q kc ks pc ll (.int x :: .int 0 :: .ref (i1 + 1) :: .int 0 :: .ref (i0 + 1) :: st) h := by
  subst hn
  subst hN
  obtain ⟨f1, f2, f3, f4⟩ := F
  obtain ⟨hx, hb, hml, hown, hK, hbs, hlk, hret, hnm⟩ := C
  intro H locs ls hl hP hz hS
  have hts := zk_T_at (args := args) hK
  have hS0 : va_S (fun q : Nat => base ≤ q) H H locs := ⟨Nat.le_refl _, fun _ _ _ => rfl, hS.2.2⟩
  refine va_copyi hx hb (by rw [hml]; exact hl.1.symm) hown (hts _ f1) (hts _ f2) (hts _ f3) (hts _ f4) hK.1 hP (zk_w_D dA b base h) hS0 i0 i1 0 0 (ty := .int) (zk_w_get hh0) (zk_w_get hh1) rfl rfl rfl (by decide) (by decide) h3 (by simpa using h4) (by simpa using h5) (fun i _ => rfl) hfr (by rw [zk_sum]; exact hlo) hd (fun H1 locs1 hP1 _ hS1 => ?_)
  intro T hT X
  have hsz1 : H1.size = H.size := by
    have q1 := X.heapSize
    have q2 := hS1.1
    rw [hT] at q1
    omega
  have hP2 : va_P D vwCl (zk_w dA b base (h.set i1 (.inl (0, n1, .inl (va_cpy f g 0 0 x.toNatClampNeg))))) H1 := by rw [← zk_w_set]; exact hP1
  exact k H1 locs1 ls hl hP2 (by rw [hsz1, hz, List.length_set]) ⟨Nat.le_trans hS.1 hS1.1, fun q h1 h2 => by rw [hS1.2.1 q (Nat.lt_of_lt_of_le h1 hS.1) h2]; exact hS.2.1 q h1 h2, hS1.2.2⟩ T hT X
theorem zr_ialdN (C : zk_C p s m meth c cc nL own nm ret D dA base sz) (hd : decode cc pc = .ok (.iaload, 1)) {n : Nat} (hn : pc + 1 = n) {i len j : Nat} {f : Nat → Int32} {x : Int32} (hh : h[i]? = some (.inl (0, len, .inl f))) (hx : x = nI j) (hj : j < len) (hlen : len < 2147483648) (k : zk_V p l e R s m args below meth c nL D dA b base Q kc ks n ll (.int (f j) :: st) h) : zk_V p l e R s m args below meth c nL D dA b base Q kc ks pc ll (.int x :: .ref (i + 1) :: st) h := by
  subst hx
  refine zr_iald C hd hn hh (vp_in_nI hj hlen) ?_
  rw [nI_clamp (Nat.lt_trans hj hlen)]
  exact k
theorem zr_iastN (C : zk_C p s m meth c cc nL own nm ret D dA base sz) (hd : decode cc pc = .ok (.iastore, 1)) {n : Nat} (hn : pc + 1 = n) {i len j : Nat} {f : Nat → Int32} {x y : Int32} (hh : h[i]? = some (.inl (0, len, .inl f))) (hx : x = nI j) (hj : j < len) (hlen : len < 2147483648) (k : zk_V p l e R s m args below meth c nL D dA b base Q kc ks n ll st (h.set i (.inl (0, len, .inl (upd f j y))))) : zk_V p l e R s m args below meth c nL D dA b base Q kc ks pc ll (.int y :: .int x :: .ref (i + 1) :: st) h := by
  subst hx
  refine zr_iast C hd hn hh (vp_in_nI hj hlen) ?_
  rw [nI_clamp (Nat.lt_trans hj hlen)]
  exact k
theorem zr_zaldN (C : zk_C p s m meth c cc nL own nm ret D dA base sz) (hd : decode cc pc = .ok (.baload, 1)) {n : Nat} (hn : pc + 1 = n) {i len j : Nat} {f : Nat → Int32} {x : Int32} (hh : h[i]? = some (.inl (2, len, .inl f))) (hx : x = nI j) (hj : j < len) (hlen : len < 2147483648) (k : zk_V p l e R s m args below meth c nL D dA b base Q kc ks n ll (.int (f j) :: st) h) : zk_V p l e R s m args below meth c nL D dA b base Q kc ks pc ll (.int x :: .ref (i + 1) :: st) h := by
  subst hn
  subst hx
  intro H locs ls hl hP hz hS
  refine va_zald C.1 C.2.1 C.2.2.2.2.1.1 hP i 2 (zk_w_get hh) rfl (vp_in_nI hj hlen) hd ?_
  rw [nI_clamp (Nat.lt_trans hj hlen)]
  exact k H locs ls hl hP hz hS
theorem zr_zastN (C : zk_C p s m meth c cc nL own nm ret D dA base sz) (hd : decode cc pc = .ok (.bastore, 1)) {n : Nat} (hn : pc + 1 = n) {i len j : Nat} {f : Nat → Int32} {x y : Int32} (hh : h[i]? = some (.inl (2, len, .inl f))) (hx : x = nI j) (hj : j < len) (hlen : len < 2147483648) (hy : vp_nar .boolean y = y) (k : zk_V p l e R s m args below meth c nL D dA b base Q kc ks n ll st (h.set i (.inl (2, len, .inl (upd f j y))))) : zk_V p l e R s m args below meth c nL D dA b base Q kc ks pc ll (.int y :: .int x :: .ref (i + 1) :: st) h := by
  subst hn
  subst hx
  intro H locs ls hl hP hz hS
  have hc : (nI j).toNatClampNeg = j := nI_clamp (Nat.lt_trans hj hlen)
  refine W.zast C.1 C.2.1 (hP i _ (zk_w_get hh)) ((C.2.2.2.2.1.1.2 2 _ rfl).1 len (fun j => .int (f j))) (fun q => by cases q) (by show ¬ (nI j < 0 ∨ (arrV _ _ _).slots.size ≤ _); rw [arrV_size]; exact vp_in_nI hj hlen) rfl rfl hd fun H1 e1 z oq => ?_
  have e2 : H1[base + i]? = some ((arrV (dA 2) len (fun j => .int (f j))).setSlot (nI j).toNatClampNeg (narrow .boolean (.int y))) := e1
  rw [arrV_store, hc] at e2
  obtain ⟨g1, g2, g3⟩ := zk_stored (k := (nI j).toNatClampNeg) hP hz hS hh (x := .inl (2, len, .inl (upd f j y))) (by
    show H1[base + i]? = some (arrV (dA 2) len (fun q => .int (upd f j y q)))
    rw [e2]
    congr 2
    funext q
    by_cases hq : q = j
    · subst hq
      have hnv : narrow .boolean (.int y) = .int (vp_nar .boolean y) := by simp [vp_nar, narrow]
      simp [updV, upd, hnv, hy]
    · simp [updV, upd, hq]) z oq
  exact k H1 _ ls hl g1 g2 g3
theorem zr_newz (C : zk_C p s m meth c cc nL own nm ret D dA base sz) (hw : Cond.arrayClass .boolean ∈ zk_tb) (hd : decode cc pc = .ok (.newarray .boolean, 2)) {n : Nat} (hn : pc + 2 = n) {x : Int32} {len : Nat} (h0 : ¬ x < 0) (hlen : x.toNatClampNeg = len) (hbytes : len * 1 ≤ 536870912) (n0 : Nat) (hn0 : h.length = n0) (hcells : kc + 1 ≤ R.cells) (hslots : ks + len ≤ R.slots) (k : zk_V p l e R s m args below meth c nL D dA b base Q (kc + 1) (ks + len) n ll (.ref (n0 + 1) :: st) (h ++ [.inl (2, len, .inl (fun _ => 0))])) : zk_V p l e R s m args below meth c nL D dA b base Q kc ks pc ll (.int x :: st) h := by
  subst hn
  subst hn0
  obtain ⟨hx, hb, hml, hown, hK, hbs, hlk, hret, hnm⟩ := C
  intro H locs ls hl hP hz hS
  have hts := zk_T_at (args := args) hK
  refine va_newaK hx hb (atype := .boolean) (hts _ hw) rfl hd rfl h0 hlen hbytes hcells hslots hz fun H1 cA e1 z1 o1 hAr hNm => ?_
  have hcA : cA = dA 2 := Option.some.inj (hNm.symm.trans (hK.1.2 2 _ rfl).2)
  subst hcA
  obtain ⟨g1, g2, g3⟩ := zk_born hP hz hS (x := .inl (2, len, .inl (fun _ => 0))) (show H1[base + h.length]? = some (arrV (dA 2) len (fun _ => .int 0)) from e1) (by rw [z1, hz]) (fun q hq => o1 q (by rw [← hz]; exact hq))
  exact k H1 _ ls hl g1 g2 g3
theorem zr_sld (C : zk_C p s m meth c cc nL own nm ret D dA base sz) {L : Nat} {xs : Nat → Int32} (hX : va_X b L xs s s.heap) (hbl : b < base) (hd : decode cc pc = .ok (.iaload, 1)) {n : Nat} (hn : pc + 1 = n) {x : Int32} (hin : vp_in x L) (k : zk_V p l e R s m args below meth c nL D dA b base Q kc ks n ll (.int (xs x.toNatClampNeg) :: st) h) : zk_V p l e R s m args below meth c nL D dA b base Q kc ks pc ll (.int x :: .ref 0 :: st) h := by
  subst hn
  exact fun H locs ls hl hP hz hS => va_sld (b := b) C.1 C.2.1 hX (by rw [C.2.2.2.2.2.1]; omega) (Nat.not_le.mpr hbl) hS hin hd (k H locs ls hl hP hz hS)
theorem zr_slen (C : zk_C p s m meth c cc nL own nm ret D dA base sz) {L : Nat} {xs : Nat → Int32} (hX : va_X b L xs s s.heap) (hbl : b < base) (hd : decode cc pc = .ok (.arraylength, 1)) {n : Nat} (hn : pc + 1 = n) (k : zk_V p l e R s m args below meth c nL D dA b base Q kc ks n ll (.int (nI L) :: st) h) : zk_V p l e R s m args below meth c nL D dA b base Q kc ks pc ll (.ref 0 :: st) h := by
  subst hn
  exact fun H locs ls hl hP hz hS => va_slen (b := b) C.1 C.2.1 hX (by rw [C.2.2.2.2.2.1]; omega) (Nat.not_le.mpr hbl) hS hd (k H locs ls hl hP hz hS)
end ZR
end
