section
-- ===== PART A: goes FIRST, ahead of the names: the tables' words, and 'selects' of the private methods out of them =====
/-- a private method of a class that the tables say can be made, by its rows of tables_1 -/
def lw_okq (q : MethodName × Nat) : Prop := (q.1.cls ≠ "java/lang/invoke/MethodHandle" ∧ q.1.cls ≠ "java/lang/invoke/VarHandle") ∧ Cond.instantiable q.1.cls q.2 ∈ tables_1 ∧ Cond.privateMethod q.1 ∈ tables_1 ∧ Cond.instanceMethod q.1 ∈ tables_1
theorem lw_p0 : lw_okq (⟨"ApiCompare", "offerOf", "(I)LApiCompare$Offer;"⟩, 6) := ⟨⟨by decide +kernel, by decide +kernel⟩, List.mem_of_getElem? (i := 8) (by decide +kernel), List.mem_of_getElem? (i := 145) (by decide +kernel), List.mem_of_getElem? (i := 146) (by decide +kernel)⟩
theorem lw_p1 : lw_okq (⟨"ApiCompare$Offer", "hasFlag", "(II)Z"⟩, 8) := ⟨⟨by decide +kernel, by decide +kernel⟩, List.mem_of_getElem? (i := 16) (by decide +kernel), List.mem_of_getElem? (i := 161) (by decide +kernel), List.mem_of_getElem? (i := 162) (by decide +kernel)⟩
theorem lw_p2 : lw_okq (⟨"ApiCompare", "isTypeThere", "(II)Z"⟩, 6) := ⟨⟨by decide +kernel, by decide +kernel⟩, List.mem_of_getElem? (i := 8) (by decide +kernel), List.mem_of_getElem? (i := 182) (by decide +kernel), List.mem_of_getElem? (i := 183) (by decide +kernel)⟩
theorem lw_p3 : lw_okq (⟨"ApiCompare$Binding", "bindField", "(LApiCompare$Use;LApiCompare$Offer;)I"⟩, 9) := ⟨⟨by decide +kernel, by decide +kernel⟩, List.mem_of_getElem? (i := 81) (by decide +kernel), List.mem_of_getElem? (i := 261) (by decide +kernel), List.mem_of_getElem? (i := 262) (by decide +kernel)⟩
theorem lw_p4 : lw_okq (⟨"ApiCompare$Offer", "findFieldFrom", "(IIII)I"⟩, 8) := ⟨⟨by decide +kernel, by decide +kernel⟩, List.mem_of_getElem? (i := 16) (by decide +kernel), List.mem_of_getElem? (i := 269) (by decide +kernel), List.mem_of_getElem? (i := 270) (by decide +kernel)⟩
theorem lw_p5 : lw_okq (⟨"ApiCompare$Binding", "bindCall", "(LApiCompare$Use;LApiCompare$Offer;)I"⟩, 9) := ⟨⟨by decide +kernel, by decide +kernel⟩, List.mem_of_getElem? (i := 81) (by decide +kernel), List.mem_of_getElem? (i := 273) (by decide +kernel), List.mem_of_getElem? (i := 274) (by decide +kernel)⟩
theorem lw_p6 : lw_okq (⟨"ApiCompare$Offer", "isMethodAt", "(II)Z"⟩, 8) := ⟨⟨by decide +kernel, by decide +kernel⟩, List.mem_of_getElem? (i := 16) (by decide +kernel), List.mem_of_getElem? (i := 282) (by decide +kernel), List.mem_of_getElem? (i := 283) (by decide +kernel)⟩
theorem lw_p7 : lw_okq (⟨"ApiCompare$Binding", "bindMethod", "(LApiCompare$Use;LApiCompare$Offer;I)I"⟩, 9) := ⟨⟨by decide +kernel, by decide +kernel⟩, List.mem_of_getElem? (i := 81) (by decide +kernel), List.mem_of_getElem? (i := 290) (by decide +kernel), List.mem_of_getElem? (i := 291) (by decide +kernel)⟩
theorem lw_p8 : lw_okq (⟨"ApiCompare$Binding", "bindOverride", "(LApiCompare$Use;LApiCompare$Offer;)I"⟩, 9) := ⟨⟨by decide +kernel, by decide +kernel⟩, List.mem_of_getElem? (i := 81) (by decide +kernel), List.mem_of_getElem? (i := 302) (by decide +kernel), List.mem_of_getElem? (i := 303) (by decide +kernel)⟩
theorem lw_p9 : lw_okq (⟨"ApiCompare", "fateOf", "(I)I"⟩, 6) := ⟨⟨by decide +kernel, by decide +kernel⟩, List.mem_of_getElem? (i := 8) (by decide +kernel), List.mem_of_getElem? (i := 310) (by decide +kernel), List.mem_of_getElem? (i := 311) (by decide +kernel)⟩
theorem lw_p10 : lw_okq (⟨"ApiCompare$Binding", "isStillValue", "(LApiCompare$Use;LApiCompare$Offer;)Z"⟩, 9) := ⟨⟨by decide +kernel, by decide +kernel⟩, List.mem_of_getElem? (i := 81) (by decide +kernel), List.mem_of_getElem? (i := 318) (by decide +kernel), List.mem_of_getElem? (i := 319) (by decide +kernel)⟩
theorem lw_p11 : lw_okq (⟨"ApiCompare$Binding", "fateOfField", "(LApiCompare$Use;LApiCompare$Offer;)I"⟩, 9) := ⟨⟨by decide +kernel, by decide +kernel⟩, List.mem_of_getElem? (i := 81) (by decide +kernel), List.mem_of_getElem? (i := 322) (by decide +kernel), List.mem_of_getElem? (i := 323) (by decide +kernel)⟩
theorem lw_p12 : lw_okq (⟨"ApiCompare$Binding", "fateOfCall", "(LApiCompare$Use;LApiCompare$Offer;)I"⟩, 9) := ⟨⟨by decide +kernel, by decide +kernel⟩, List.mem_of_getElem? (i := 81) (by decide +kernel), List.mem_of_getElem? (i := 326) (by decide +kernel), List.mem_of_getElem? (i := 327) (by decide +kernel)⟩
theorem lw_p13 : lw_okq (⟨"ApiCompare$Binding", "isSubtypeBarred", "(LApiCompare$Use;LApiCompare$Offer;)Z"⟩, 9) := ⟨⟨by decide +kernel, by decide +kernel⟩, List.mem_of_getElem? (i := 81) (by decide +kernel), List.mem_of_getElem? (i := 330) (by decide +kernel), List.mem_of_getElem? (i := 331) (by decide +kernel)⟩
theorem lw_p14 : lw_okq (⟨"ApiCompare$Binding", "fateOfOverride", "(LApiCompare$Use;LApiCompare$Offer;)I"⟩, 9) := ⟨⟨by decide +kernel, by decide +kernel⟩, List.mem_of_getElem? (i := 81) (by decide +kernel), List.mem_of_getElem? (i := 334) (by decide +kernel), List.mem_of_getElem? (i := 335) (by decide +kernel)⟩
theorem lw_p15 : lw_okq (⟨"ApiCompare$Binding", "isSameField", "(LApiCompare$Binding;)Z"⟩, 9) := ⟨⟨by decide +kernel, by decide +kernel⟩, List.mem_of_getElem? (i := 81) (by decide +kernel), List.mem_of_getElem? (i := 346) (by decide +kernel), List.mem_of_getElem? (i := 347) (by decide +kernel)⟩
def lw_privs_1 : List (MethodName × Nat) := [(⟨"ApiCompare", "offerOf", "(I)LApiCompare$Offer;"⟩, 6), (⟨"ApiCompare$Offer", "hasFlag", "(II)Z"⟩, 8), (⟨"ApiCompare", "isTypeThere", "(II)Z"⟩, 6), (⟨"ApiCompare$Binding", "bindField", "(LApiCompare$Use;LApiCompare$Offer;)I"⟩, 9), (⟨"ApiCompare$Offer", "findFieldFrom", "(IIII)I"⟩, 8), (⟨"ApiCompare$Binding", "bindCall", "(LApiCompare$Use;LApiCompare$Offer;)I"⟩, 9), (⟨"ApiCompare$Offer", "isMethodAt", "(II)Z"⟩, 8), (⟨"ApiCompare$Binding", "bindMethod", "(LApiCompare$Use;LApiCompare$Offer;I)I"⟩, 9), (⟨"ApiCompare$Binding", "bindOverride", "(LApiCompare$Use;LApiCompare$Offer;)I"⟩, 9), (⟨"ApiCompare", "fateOf", "(I)I"⟩, 6), (⟨"ApiCompare$Binding", "isStillValue", "(LApiCompare$Use;LApiCompare$Offer;)Z"⟩, 9), (⟨"ApiCompare$Binding", "fateOfField", "(LApiCompare$Use;LApiCompare$Offer;)I"⟩, 9), (⟨"ApiCompare$Binding", "fateOfCall", "(LApiCompare$Use;LApiCompare$Offer;)I"⟩, 9), (⟨"ApiCompare$Binding", "isSubtypeBarred", "(LApiCompare$Use;LApiCompare$Offer;)Z"⟩, 9), (⟨"ApiCompare$Binding", "fateOfOverride", "(LApiCompare$Use;LApiCompare$Offer;)I"⟩, 9), (⟨"ApiCompare$Binding", "isSameField", "(LApiCompare$Binding;)Z"⟩, 9)]
theorem lw_r1 : ∀ q ∈ lw_privs_1, lw_okq q := List.forall_mem_cons.mpr ⟨lw_p0, List.forall_mem_cons.mpr ⟨lw_p1, List.forall_mem_cons.mpr ⟨lw_p2, List.forall_mem_cons.mpr ⟨lw_p3, List.forall_mem_cons.mpr ⟨lw_p4, List.forall_mem_cons.mpr ⟨lw_p5, List.forall_mem_cons.mpr ⟨lw_p6, List.forall_mem_cons.mpr ⟨lw_p7, List.forall_mem_cons.mpr ⟨lw_p8, List.forall_mem_cons.mpr ⟨lw_p9, List.forall_mem_cons.mpr ⟨lw_p10, List.forall_mem_cons.mpr ⟨lw_p11, List.forall_mem_cons.mpr ⟨lw_p12, List.forall_mem_cons.mpr ⟨lw_p13, List.forall_mem_cons.mpr ⟨lw_p14, List.forall_mem_cons.mpr ⟨lw_p15, fun _ h => absurd h List.not_mem_nil⟩⟩⟩⟩⟩⟩⟩⟩⟩⟩⟩⟩⟩⟩⟩⟩
theorem lw_p16 : lw_okq (⟨"ApiCompare$Offer", "isSameField", "(LApiCompare$Offer;I)Z"⟩, 8) := ⟨⟨by decide +kernel, by decide +kernel⟩, List.mem_of_getElem? (i := 16) (by decide +kernel), List.mem_of_getElem? (i := 381) (by decide +kernel), List.mem_of_getElem? (i := 382) (by decide +kernel)⟩
theorem lw_p17 : lw_okq (⟨"ApiCompare$Offer", "isSameMethod", "(LApiCompare$Offer;I)Z"⟩, 8) := ⟨⟨by decide +kernel, by decide +kernel⟩, List.mem_of_getElem? (i := 16) (by decide +kernel), List.mem_of_getElem? (i := 385) (by decide +kernel), List.mem_of_getElem? (i := 386) (by decide +kernel)⟩
theorem lw_p18 : lw_okq (⟨"ApiCompareModel", "parentsRight", "(IIII)Z"⟩, 13) := ⟨⟨by decide +kernel, by decide +kernel⟩, List.mem_of_getElem? (i := 402) (by decide +kernel), List.mem_of_getElem? (i := 456) (by decide +kernel), List.mem_of_getElem? (i := 457) (by decide +kernel)⟩
theorem lw_p19 : lw_okq (⟨"ApiCompareModel", "named", "(II)Z"⟩, 13) := ⟨⟨by decide +kernel, by decide +kernel⟩, List.mem_of_getElem? (i := 402) (by decide +kernel), List.mem_of_getElem? (i := 460) (by decide +kernel), List.mem_of_getElem? (i := 461) (by decide +kernel)⟩
theorem lw_p20 : lw_okq (⟨"ApiCompareModel", "bind", "(II)I"⟩, 13) := ⟨⟨by decide +kernel, by decide +kernel⟩, List.mem_of_getElem? (i := 402) (by decide +kernel), List.mem_of_getElem? (i := 492) (by decide +kernel), List.mem_of_getElem? (i := 493) (by decide +kernel)⟩
theorem lw_p21 : lw_okq (⟨"ApiCompareModel", "bindField", "(IIII)I"⟩, 13) := ⟨⟨by decide +kernel, by decide +kernel⟩, List.mem_of_getElem? (i := 402) (by decide +kernel), List.mem_of_getElem? (i := 496) (by decide +kernel), List.mem_of_getElem? (i := 497) (by decide +kernel)⟩
theorem lw_p22 : lw_okq (⟨"ApiCompareModel", "findField", "(IIII)I"⟩, 13) := ⟨⟨by decide +kernel, by decide +kernel⟩, List.mem_of_getElem? (i := 402) (by decide +kernel), List.mem_of_getElem? (i := 500) (by decide +kernel), List.mem_of_getElem? (i := 501) (by decide +kernel)⟩
theorem lw_p23 : lw_okq (⟨"ApiCompareModel", "bindCall", "(IIIII)I"⟩, 13) := ⟨⟨by decide +kernel, by decide +kernel⟩, List.mem_of_getElem? (i := 402) (by decide +kernel), List.mem_of_getElem? (i := 507) (by decide +kernel), List.mem_of_getElem? (i := 508) (by decide +kernel)⟩
theorem lw_p24 : lw_okq (⟨"ApiCompareModel", "findMethod", "(IIIII)I"⟩, 13) := ⟨⟨by decide +kernel, by decide +kernel⟩, List.mem_of_getElem? (i := 402) (by decide +kernel), List.mem_of_getElem? (i := 511) (by decide +kernel), List.mem_of_getElem? (i := 512) (by decide +kernel)⟩
theorem lw_p25 : lw_okq (⟨"ApiCompareModel", "isMethod", "(II)Z"⟩, 13) := ⟨⟨by decide +kernel, by decide +kernel⟩, List.mem_of_getElem? (i := 402) (by decide +kernel), List.mem_of_getElem? (i := 515) (by decide +kernel), List.mem_of_getElem? (i := 516) (by decide +kernel)⟩
theorem lw_p26 : lw_okq (⟨"ApiCompareModel", "isUnder", "(III)Z"⟩, 13) := ⟨⟨by decide +kernel, by decide +kernel⟩, List.mem_of_getElem? (i := 402) (by decide +kernel), List.mem_of_getElem? (i := 519) (by decide +kernel), List.mem_of_getElem? (i := 520) (by decide +kernel)⟩
theorem lw_p27 : lw_okq (⟨"ApiCompareModel", "bindMethod", "(III)I"⟩, 13) := ⟨⟨by decide +kernel, by decide +kernel⟩, List.mem_of_getElem? (i := 402) (by decide +kernel), List.mem_of_getElem? (i := 523) (by decide +kernel), List.mem_of_getElem? (i := 524) (by decide +kernel)⟩
theorem lw_p28 : lw_okq (⟨"ApiCompareModel", "bindOverride", "(IIII)I"⟩, 13) := ⟨⟨by decide +kernel, by decide +kernel⟩, List.mem_of_getElem? (i := 402) (by decide +kernel), List.mem_of_getElem? (i := 527) (by decide +kernel), List.mem_of_getElem? (i := 528) (by decide +kernel)⟩
theorem lw_p29 : lw_okq (⟨"ApiCompareModel", "linked", "(I)I"⟩, 13) := ⟨⟨by decide +kernel, by decide +kernel⟩, List.mem_of_getElem? (i := 402) (by decide +kernel), List.mem_of_getElem? (i := 535) (by decide +kernel), List.mem_of_getElem? (i := 536) (by decide +kernel)⟩
theorem lw_p30 : lw_okq (⟨"ApiCompareModel", "linkValue", "(II)I"⟩, 13) := ⟨⟨by decide +kernel, by decide +kernel⟩, List.mem_of_getElem? (i := 402) (by decide +kernel), List.mem_of_getElem? (i := 539) (by decide +kernel), List.mem_of_getElem? (i := 540) (by decide +kernel)⟩
theorem lw_p31 : lw_okq (⟨"ApiCompareModel", "linkField", "(III)I"⟩, 13) := ⟨⟨by decide +kernel, by decide +kernel⟩, List.mem_of_getElem? (i := 402) (by decide +kernel), List.mem_of_getElem? (i := 543) (by decide +kernel), List.mem_of_getElem? (i := 544) (by decide +kernel)⟩
def lw_privs_2 : List (MethodName × Nat) := [(⟨"ApiCompare$Offer", "isSameField", "(LApiCompare$Offer;I)Z"⟩, 8), (⟨"ApiCompare$Offer", "isSameMethod", "(LApiCompare$Offer;I)Z"⟩, 8), (⟨"ApiCompareModel", "parentsRight", "(IIII)Z"⟩, 13), (⟨"ApiCompareModel", "named", "(II)Z"⟩, 13), (⟨"ApiCompareModel", "bind", "(II)I"⟩, 13), (⟨"ApiCompareModel", "bindField", "(IIII)I"⟩, 13), (⟨"ApiCompareModel", "findField", "(IIII)I"⟩, 13), (⟨"ApiCompareModel", "bindCall", "(IIIII)I"⟩, 13), (⟨"ApiCompareModel", "findMethod", "(IIIII)I"⟩, 13), (⟨"ApiCompareModel", "isMethod", "(II)Z"⟩, 13), (⟨"ApiCompareModel", "isUnder", "(III)Z"⟩, 13), (⟨"ApiCompareModel", "bindMethod", "(III)I"⟩, 13), (⟨"ApiCompareModel", "bindOverride", "(IIII)I"⟩, 13), (⟨"ApiCompareModel", "linked", "(I)I"⟩, 13), (⟨"ApiCompareModel", "linkValue", "(II)I"⟩, 13), (⟨"ApiCompareModel", "linkField", "(III)I"⟩, 13)]
theorem lw_r2 : ∀ q ∈ lw_privs_2, lw_okq q := List.forall_mem_cons.mpr ⟨lw_p16, List.forall_mem_cons.mpr ⟨lw_p17, List.forall_mem_cons.mpr ⟨lw_p18, List.forall_mem_cons.mpr ⟨lw_p19, List.forall_mem_cons.mpr ⟨lw_p20, List.forall_mem_cons.mpr ⟨lw_p21, List.forall_mem_cons.mpr ⟨lw_p22, List.forall_mem_cons.mpr ⟨lw_p23, List.forall_mem_cons.mpr ⟨lw_p24, List.forall_mem_cons.mpr ⟨lw_p25, List.forall_mem_cons.mpr ⟨lw_p26, List.forall_mem_cons.mpr ⟨lw_p27, List.forall_mem_cons.mpr ⟨lw_p28, List.forall_mem_cons.mpr ⟨lw_p29, List.forall_mem_cons.mpr ⟨lw_p30, List.forall_mem_cons.mpr ⟨lw_p31, fun _ h => absurd h List.not_mem_nil⟩⟩⟩⟩⟩⟩⟩⟩⟩⟩⟩⟩⟩⟩⟩⟩
theorem lw_p32 : lw_okq (⟨"ApiCompareModel", "linkCall", "(II)I"⟩, 13) := ⟨⟨by decide +kernel, by decide +kernel⟩, List.mem_of_getElem? (i := 402) (by decide +kernel), List.mem_of_getElem? (i := 547) (by decide +kernel), List.mem_of_getElem? (i := 548) (by decide +kernel)⟩
theorem lw_p33 : lw_okq (⟨"ApiCompareModel", "linkOverride", "(II)I"⟩, 13) := ⟨⟨by decide +kernel, by decide +kernel⟩, List.mem_of_getElem? (i := 402) (by decide +kernel), List.mem_of_getElem? (i := 551) (by decide +kernel), List.mem_of_getElem? (i := 552) (by decide +kernel)⟩
theorem lw_p34 : lw_okq (⟨"ApiCompareModel", "having", "(I)I"⟩, 13) := ⟨⟨by decide +kernel, by decide +kernel⟩, List.mem_of_getElem? (i := 402) (by decide +kernel), List.mem_of_getElem? (i := 568) (by decide +kernel), List.mem_of_getElem? (i := 569) (by decide +kernel)⟩
theorem lw_p35 : lw_okq (⟨"ApiCompareModel", "state", "(I)I"⟩, 13) := ⟨⟨by decide +kernel, by decide +kernel⟩, List.mem_of_getElem? (i := 402) (by decide +kernel), List.mem_of_getElem? (i := 572) (by decide +kernel), List.mem_of_getElem? (i := 573) (by decide +kernel)⟩
theorem lw_p36 : lw_okq (⟨"ApiCompareModel", "differences", "(I)I"⟩, 13) := ⟨⟨by decide +kernel, by decide +kernel⟩, List.mem_of_getElem? (i := 402) (by decide +kernel), List.mem_of_getElem? (i := 588) (by decide +kernel), List.mem_of_getElem? (i := 589) (by decide +kernel)⟩
def lw_privs_3 : List (MethodName × Nat) := [(⟨"ApiCompareModel", "linkCall", "(II)I"⟩, 13), (⟨"ApiCompareModel", "linkOverride", "(II)I"⟩, 13), (⟨"ApiCompareModel", "having", "(I)I"⟩, 13), (⟨"ApiCompareModel", "state", "(I)I"⟩, 13), (⟨"ApiCompareModel", "differences", "(I)I"⟩, 13)]
theorem lw_r3 : ∀ q ∈ lw_privs_3, lw_okq q := List.forall_mem_cons.mpr ⟨lw_p32, List.forall_mem_cons.mpr ⟨lw_p33, List.forall_mem_cons.mpr ⟨lw_p34, List.forall_mem_cons.mpr ⟨lw_p35, List.forall_mem_cons.mpr ⟨lw_p36, fun _ h => absurd h List.not_mem_nil⟩⟩⟩⟩⟩
def lw_privs : List (MethodName × Nat) := lw_privs_1 ++ (lw_privs_2 ++ (lw_privs_3))
def lw_tbl : List Cond := k2_sels lw_privs ++ tables_1
theorem lw_privs_ok : ∀ q ∈ lw_privs, lw_okq q := by
  show ∀ q ∈ lw_privs_1 ++ (lw_privs_2 ++ (lw_privs_3)), lw_okq q
  exact List.forall_mem_append.mpr ⟨lw_r1, List.forall_mem_append.mpr ⟨lw_r2, lw_r3⟩⟩
end
section
def R_B : String := "ApiCompare$Binding"
def T_B : u_T := fun k => match k with
  | 0 => ("ApiCompare$Binding", "error", "I", false)
  | 1 => ("ApiCompare$Binding", "ofInterface", "Z", false)
  | 2 => ("ApiCompare$Binding", "toValue", "Z", false)
  | 3 => ("ApiCompare$Binding", "fieldKind", "I", false)
  | 4 => ("ApiCompare$Binding", "number", "I", false)
  | 5 => ("ApiCompare$Binding", "isStatic", "Z", false)
  | 6 => ("ApiCompare$Binding", "parameter", "I", false)
  | 7 => ("ApiCompare$Binding", "answer", "I", false)
  | _ => ("ApiCompare$Binding", "home", "I", false)
def t_B : Nat → FieldType := fun k => match k with
  | 0 => .int
  | 1 => .boolean
  | 2 => .boolean
  | 3 => .int
  | 4 => .int
  | 5 => .boolean
  | 6 => .int
  | 7 => .int
  | _ => .int
def R_O : String := "ApiCompare$Offer"
def T_O : u_T := fun k => match k with
  | 0 => ("ApiCompare$Offer", "typeFlags", "[I", true)
  | 1 => ("ApiCompare$Offer", "superOf", "[I", true)
  | 2 => ("ApiCompare$Offer", "interfacesOf", "[I", true)
  | 3 => ("ApiCompare$Offer", "fieldFlags", "[I", true)
  | 4 => ("ApiCompare$Offer", "fieldKind", "[I", true)
  | 5 => ("ApiCompare$Offer", "fieldNumber", "[I", true)
  | 6 => ("ApiCompare$Offer", "methodFlags", "[I", true)
  | _ => ("ApiCompare$Offer", "methodAnswer", "[I", true)
def t_O : Nat → FieldType := fun k => match k with
  | 0 => .array .int
  | 1 => .array .int
  | 2 => .array .int
  | 3 => .array .int
  | 4 => .array .int
  | 5 => .array .int
  | 6 => .array .int
  | _ => .array .int
def R_U : String := "ApiCompare$Use"
def T_U : u_T := fun k => match k with
  | 0 => ("ApiCompare$Use", "kind", "I", false)
  | 1 => ("ApiCompare$Use", "type", "I", false)
  | 2 => ("ApiCompare$Use", "name", "I", false)
  | _ => ("ApiCompare$Use", "argument", "I", false)
def t_U : Nat → FieldType := fun k => match k with
  | 0 => .int
  | 1 => .int
  | 2 => .int
  | _ => .int
def R_A : String := "ApiCompare"
def T_A : u_T := fun k => match k with
  | 0 => ("ApiCompare", "oldOffer", "LApiCompare$Offer;", true)
  | 1 => ("ApiCompare", "newOffer", "LApiCompare$Offer;", true)
  | 2 => ("ApiCompare", "uses", "[LApiCompare$Use;", true)
  | 3 => ("ApiCompare", "useCount", "I", false)
  | 4 => ("ApiCompare", "oldBinding", "LApiCompare$Binding;", true)
  | _ => ("ApiCompare", "newBinding", "LApiCompare$Binding;", true)
def t_A : Nat → FieldType := fun k => match k with
  | 0 => .object "ApiCompare$Offer"
  | 1 => .object "ApiCompare$Offer"
  | 2 => .array (.object "ApiCompare$Use")
  | 3 => .int
  | 4 => .object "ApiCompare$Binding"
  | _ => .object "ApiCompare$Binding"
def R_M : String := "ApiCompareModel"
def T_M : u_T := fun k => match k with
  | 0 => ("ApiCompareModel", "there", "[Z", true)
  | 1 => ("ApiCompareModel", "flags", "[I", true)
  | 2 => ("ApiCompareModel", "above", "[I", true)
  | 3 => ("ApiCompareModel", "faces", "[I", true)
  | 4 => ("ApiCompareModel", "fKind", "[I", true)
  | 5 => ("ApiCompareModel", "fFlags", "[I", true)
  | 6 => ("ApiCompareModel", "fValue", "[I", true)
  | 7 => ("ApiCompareModel", "mAnswer", "[I", true)
  | 8 => ("ApiCompareModel", "mFlags", "[I", true)
  | 9 => ("ApiCompareModel", "uses", "I", false)
  | 10 => ("ApiCompareModel", "use", "[I", true)
  | 11 => ("ApiCompareModel", "bound", "[I", true)
  | _ => ("ApiCompareModel", "visit", "[I", true)
def t_M : Nat → FieldType := fun k => match k with
  | 0 => .array .boolean
  | 1 => .array .int
  | 2 => .array .int
  | 3 => .array .int
  | 4 => .array .int
  | 5 => .array .int
  | 6 => .array .int
  | 7 => .array .int
  | 8 => .array .int
  | 9 => .int
  | 10 => .array .int
  | 11 => .array .int
  | _ => .array .int
def R_L : String := "ApiCompareLaw"
abbrev b_A_init : ByteArray := prog_1_method_1_code
def y_A_init : MethodName := ⟨R_A, "<init>", "()V"⟩
abbrev b_A_type : ByteArray := prog_1_method_2_code
def y_A_type : MethodName := ⟨R_A, "type", "(IIIII)I"⟩
abbrev b_A_drop : ByteArray := prog_1_method_3_code
def y_A_drop : MethodName := ⟨R_A, "drop", "(II)I"⟩
abbrev b_A_field : ByteArray := prog_1_method_4_code
def y_A_field : MethodName := ⟨R_A, "field", "(IIII)I"⟩
abbrev b_A_method : ByteArray := prog_1_method_5_code
def y_A_method : MethodName := ⟨R_A, "method", "(IIII)I"⟩
abbrev b_A_cut : ByteArray := prog_1_method_6_code
def y_A_cut : MethodName := ⟨R_A, "cut", "(IIII)I"⟩
abbrev b_A_copy : ByteArray := prog_1_method_7_code
def y_A_copy : MethodName := ⟨R_A, "copy", "()I"⟩
abbrev b_A_use : ByteArray := prog_1_method_8_code
def y_A_use : MethodName := ⟨R_A, "use", "(IIII)I"⟩
abbrev b_A_compile : ByteArray := prog_1_method_9_code
def y_A_compile : MethodName := ⟨R_A, "compile", "(II)I"⟩
abbrev b_A_link : ByteArray := prog_1_method_10_code
def y_A_link : MethodName := ⟨R_A, "link", "(I)I"⟩
abbrev b_A_recompile : ByteArray := prog_1_method_11_code
def y_A_recompile : MethodName := ⟨R_A, "recompile", "(I)I"⟩
abbrev b_A_value : ByteArray := prog_1_method_12_code
def y_A_value : MethodName := ⟨R_A, "value", "(II)D"⟩
abbrev b_A_share : ByteArray := prog_1_method_13_code
def y_A_share : MethodName := ⟨R_A, "share", "()D"⟩
abbrev b_A_breaking : ByteArray := prog_1_method_14_code
def y_A_breaking : MethodName := ⟨R_A, "breaking", "()I"⟩
abbrev b_A_broken : ByteArray := prog_1_method_15_code
def y_A_broken : MethodName := ⟨R_A, "broken", "(I)I"⟩
abbrev b_A_differ : ByteArray := prog_1_method_16_code
def y_A_differ : MethodName := ⟨R_A, "differ", "(I)I"⟩
abbrev b_A_under : ByteArray := prog_1_method_17_code
def y_A_under : MethodName := ⟨R_A, "under", "(III)Z"⟩
abbrev b_A_count : ByteArray := prog_1_method_18_code
def y_A_count : MethodName := ⟨R_A, "count", "(II)I"⟩
abbrev b_A_offerOf : ByteArray := prog_1_method_19_code
def y_A_offerOf : MethodName := ⟨R_A, "offerOf", "(I)LApiCompare$Offer;"⟩
abbrev b_A_isTypeThere : ByteArray := prog_1_method_20_code
def y_A_isTypeThere : MethodName := ⟨R_A, "isTypeThere", "(II)Z"⟩
abbrev b_A_fateOf : ByteArray := prog_1_method_21_code
def y_A_fateOf : MethodName := ⟨R_A, "fateOf", "(I)I"⟩
abbrev b_A_isError : ByteArray := prog_1_method_22_code
def y_A_isError : MethodName := ⟨R_A, "isError", "(I)Z"⟩
abbrev b_A_breaks : ByteArray := prog_1_method_23_code
def y_A_breaks : MethodName := ⟨R_A, "breaks", "(I)Z"⟩
abbrev b_A_isBelow : ByteArray := prog_1_method_24_code
def y_A_isBelow : MethodName := ⟨R_A, "isBelow", "(II)Z"⟩
abbrev b_A_areFieldFlags : ByteArray := prog_1_method_25_code
def y_A_areFieldFlags : MethodName := ⟨R_A, "areFieldFlags", "(I)Z"⟩
abbrev b_A_areMethodFlags : ByteArray := prog_1_method_26_code
def y_A_areMethodFlags : MethodName := ⟨R_A, "areMethodFlags", "(I)Z"⟩
abbrev b_A_methodPlace : ByteArray := prog_1_method_27_code
def y_A_methodPlace : MethodName := ⟨R_A, "methodPlace", "(III)I"⟩
abbrev b_A_holds : ByteArray := prog_1_method_28_code
def y_A_holds : MethodName := ⟨R_A, "holds", "(II)Z"⟩
abbrev b_A_howManyThere : ByteArray := prog_1_method_29_code
def y_A_howManyThere : MethodName := ⟨R_A, "howManyThere", "([I)I"⟩
abbrev b_M_init : ByteArray := prog_6_method_1_code
def y_M_init : MethodName := ⟨R_M, "<init>", "()V"⟩
abbrev b_M_in : ByteArray := prog_6_method_2_code
def y_M_in : MethodName := ⟨R_M, "in", "(III)Z"⟩
abbrev b_M_bit : ByteArray := prog_6_method_3_code
def y_M_bit : MethodName := ⟨R_M, "bit", "(II)I"⟩
abbrev b_M_named : ByteArray := prog_6_method_4_code
def y_M_named : MethodName := ⟨R_M, "named", "(II)Z"⟩
abbrev b_M_parentsRight : ByteArray := prog_6_method_5_code
def y_M_parentsRight : MethodName := ⟨R_M, "parentsRight", "(IIII)Z"⟩
abbrev b_M_type : ByteArray := prog_6_method_6_code
def y_M_type : MethodName := ⟨R_M, "type", "(IIIII)I"⟩
abbrev b_M_drop : ByteArray := prog_6_method_7_code
def y_M_drop : MethodName := ⟨R_M, "drop", "(II)I"⟩
abbrev b_M_field : ByteArray := prog_6_method_8_code
def y_M_field : MethodName := ⟨R_M, "field", "(IIII)I"⟩
abbrev b_M_method : ByteArray := prog_6_method_9_code
def y_M_method : MethodName := ⟨R_M, "method", "(IIII)I"⟩
abbrev b_M_cut : ByteArray := prog_6_method_10_code
def y_M_cut : MethodName := ⟨R_M, "cut", "(IIII)I"⟩
abbrev b_M_copy : ByteArray := prog_6_method_11_code
def y_M_copy : MethodName := ⟨R_M, "copy", "()I"⟩
abbrev b_M_use : ByteArray := prog_6_method_12_code
def y_M_use : MethodName := ⟨R_M, "use", "(IIII)I"⟩
abbrev b_M_findField : ByteArray := prog_6_method_13_code
def y_M_findField : MethodName := ⟨R_M, "findField", "(IIII)I"⟩
abbrev b_M_isUnder : ByteArray := prog_6_method_14_code
def y_M_isUnder : MethodName := ⟨R_M, "isUnder", "(III)Z"⟩
abbrev b_M_isMethod : ByteArray := prog_6_method_15_code
def y_M_isMethod : MethodName := ⟨R_M, "isMethod", "(II)Z"⟩
abbrev b_M_findMethod : ByteArray := prog_6_method_16_code
def y_M_findMethod : MethodName := ⟨R_M, "findMethod", "(IIIII)I"⟩
abbrev b_M_bindField : ByteArray := prog_6_method_17_code
def y_M_bindField : MethodName := ⟨R_M, "bindField", "(IIII)I"⟩
abbrev b_M_bindMethod : ByteArray := prog_6_method_18_code
def y_M_bindMethod : MethodName := ⟨R_M, "bindMethod", "(III)I"⟩
abbrev b_M_bindCall : ByteArray := prog_6_method_19_code
def y_M_bindCall : MethodName := ⟨R_M, "bindCall", "(IIIII)I"⟩
abbrev b_M_bindOverride : ByteArray := prog_6_method_20_code
def y_M_bindOverride : MethodName := ⟨R_M, "bindOverride", "(IIII)I"⟩
abbrev b_M_bind : ByteArray := prog_6_method_21_code
def y_M_bind : MethodName := ⟨R_M, "bind", "(II)I"⟩
abbrev b_M_compile : ByteArray := prog_6_method_22_code
def y_M_compile : MethodName := ⟨R_M, "compile", "(II)I"⟩
abbrev b_M_linkValue : ByteArray := prog_6_method_23_code
def y_M_linkValue : MethodName := ⟨R_M, "linkValue", "(II)I"⟩
abbrev b_M_linkField : ByteArray := prog_6_method_24_code
def y_M_linkField : MethodName := ⟨R_M, "linkField", "(III)I"⟩
abbrev b_M_linkCall : ByteArray := prog_6_method_25_code
def y_M_linkCall : MethodName := ⟨R_M, "linkCall", "(II)I"⟩
abbrev b_M_linkOverride : ByteArray := prog_6_method_26_code
def y_M_linkOverride : MethodName := ⟨R_M, "linkOverride", "(II)I"⟩
abbrev b_M_linked : ByteArray := prog_6_method_27_code
def y_M_linked : MethodName := ⟨R_M, "linked", "(I)I"⟩
abbrev b_M_link : ByteArray := prog_6_method_28_code
def y_M_link : MethodName := ⟨R_M, "link", "(I)I"⟩
abbrev b_M_recompile : ByteArray := prog_6_method_29_code
def y_M_recompile : MethodName := ⟨R_M, "recompile", "(I)I"⟩
abbrev b_M_value : ByteArray := prog_6_method_30_code
def y_M_value : MethodName := ⟨R_M, "value", "(II)D"⟩
abbrev b_M_state : ByteArray := prog_6_method_31_code
def y_M_state : MethodName := ⟨R_M, "state", "(I)I"⟩
abbrev b_M_having : ByteArray := prog_6_method_32_code
def y_M_having : MethodName := ⟨R_M, "having", "(I)I"⟩
abbrev b_M_share : ByteArray := prog_6_method_33_code
def y_M_share : MethodName := ⟨R_M, "share", "()D"⟩
abbrev b_M_breaking : ByteArray := prog_6_method_34_code
def y_M_breaking : MethodName := ⟨R_M, "breaking", "()I"⟩
abbrev b_M_broken : ByteArray := prog_6_method_35_code
def y_M_broken : MethodName := ⟨R_M, "broken", "(I)I"⟩
abbrev b_M_differences : ByteArray := prog_6_method_36_code
def y_M_differences : MethodName := ⟨R_M, "differences", "(I)I"⟩
abbrev b_M_differ : ByteArray := prog_6_method_37_code
def y_M_differ : MethodName := ⟨R_M, "differ", "(I)I"⟩
abbrev b_M_under : ByteArray := prog_6_method_38_code
def y_M_under : MethodName := ⟨R_M, "under", "(III)Z"⟩
abbrev b_M_count : ByteArray := prog_6_method_39_code
def y_M_count : MethodName := ⟨R_M, "count", "(II)I"⟩
abbrev b_B_init : ByteArray := prog_2_method_1_code
def y_B_init : MethodName := ⟨R_B, "<init>", "()V"⟩
abbrev b_B_bind : ByteArray := prog_2_method_2_code
def y_B_bind : MethodName := ⟨R_B, "bind", "(LApiCompare$Use;LApiCompare$Offer;)V"⟩
abbrev b_B_bindField : ByteArray := prog_2_method_3_code
def y_B_bindField : MethodName := ⟨R_B, "bindField", "(LApiCompare$Use;LApiCompare$Offer;)I"⟩
abbrev b_B_bindCall : ByteArray := prog_2_method_4_code
def y_B_bindCall : MethodName := ⟨R_B, "bindCall", "(LApiCompare$Use;LApiCompare$Offer;)I"⟩
abbrev b_B_bindMethod : ByteArray := prog_2_method_5_code
def y_B_bindMethod : MethodName := ⟨R_B, "bindMethod", "(LApiCompare$Use;LApiCompare$Offer;I)I"⟩
abbrev b_B_bindOverride : ByteArray := prog_2_method_6_code
def y_B_bindOverride : MethodName := ⟨R_B, "bindOverride", "(LApiCompare$Use;LApiCompare$Offer;)I"⟩
abbrev b_B_isSameAs : ByteArray := prog_2_method_7_code
def y_B_isSameAs : MethodName := ⟨R_B, "isSameAs", "(LApiCompare$Binding;I)Z"⟩
abbrev b_B_isSameField : ByteArray := prog_2_method_8_code
def y_B_isSameField : MethodName := ⟨R_B, "isSameField", "(LApiCompare$Binding;)Z"⟩
abbrev b_B_fateWith : ByteArray := prog_2_method_9_code
def y_B_fateWith : MethodName := ⟨R_B, "fateWith", "(LApiCompare$Use;LApiCompare$Offer;)I"⟩
abbrev b_B_isStillValue : ByteArray := prog_2_method_10_code
def y_B_isStillValue : MethodName := ⟨R_B, "isStillValue", "(LApiCompare$Use;LApiCompare$Offer;)Z"⟩
abbrev b_B_fateOfField : ByteArray := prog_2_method_11_code
def y_B_fateOfField : MethodName := ⟨R_B, "fateOfField", "(LApiCompare$Use;LApiCompare$Offer;)I"⟩
abbrev b_B_fateOfCall : ByteArray := prog_2_method_12_code
def y_B_fateOfCall : MethodName := ⟨R_B, "fateOfCall", "(LApiCompare$Use;LApiCompare$Offer;)I"⟩
abbrev b_B_isSubtypeBarred : ByteArray := prog_2_method_13_code
def y_B_isSubtypeBarred : MethodName := ⟨R_B, "isSubtypeBarred", "(LApiCompare$Use;LApiCompare$Offer;)Z"⟩
abbrev b_B_fateOfOverride : ByteArray := prog_2_method_14_code
def y_B_fateOfOverride : MethodName := ⟨R_B, "fateOfOverride", "(LApiCompare$Use;LApiCompare$Offer;)I"⟩
abbrev b_O_init : ByteArray := prog_3_method_1_code
def y_O_init : MethodName := ⟨R_O, "<init>", "()V"⟩
abbrev b_O_isThere : ByteArray := prog_3_method_2_code
def y_O_isThere : MethodName := ⟨R_O, "isThere", "(I)Z"⟩
abbrev b_O_isInterface : ByteArray := prog_3_method_3_code
def y_O_isInterface : MethodName := ⟨R_O, "isInterface", "(I)Z"⟩
abbrev b_O_isHidden : ByteArray := prog_3_method_4_code
def y_O_isHidden : MethodName := ⟨R_O, "isHidden", "(I)Z"⟩
abbrev b_O_isFinal : ByteArray := prog_3_method_5_code
def y_O_isFinal : MethodName := ⟨R_O, "isFinal", "(I)Z"⟩
abbrev b_O_isAbstract : ByteArray := prog_3_method_6_code
def y_O_isAbstract : MethodName := ⟨R_O, "isAbstract", "(I)Z"⟩
abbrev b_O_hasFlag : ByteArray := prog_3_method_7_code
def y_O_hasFlag : MethodName := ⟨R_O, "hasFlag", "(II)Z"⟩
abbrev b_O_canName : ByteArray := prog_3_method_8_code
def y_O_canName : MethodName := ⟨R_O, "canName", "(III)Z"⟩
abbrev b_O_isNamed : ByteArray := prog_3_method_9_code
def y_O_isNamed : MethodName := ⟨R_O, "isNamed", "(I)Z"⟩
abbrev b_O_putType : ByteArray := prog_3_method_10_code
def y_O_putType : MethodName := ⟨R_O, "putType", "(IIII)V"⟩
abbrev b_O_removeType : ByteArray := prog_3_method_11_code
def y_O_removeType : MethodName := ⟨R_O, "removeType", "(I)V"⟩
abbrev b_O_putField : ByteArray := prog_3_method_12_code
def y_O_putField : MethodName := ⟨R_O, "putField", "(IIII)V"⟩
abbrev b_O_removeField : ByteArray := prog_3_method_13_code
def y_O_removeField : MethodName := ⟨R_O, "removeField", "(I)Z"⟩
abbrev b_O_putMethod : ByteArray := prog_3_method_14_code
def y_O_putMethod : MethodName := ⟨R_O, "putMethod", "(III)V"⟩
abbrev b_O_removeMethod : ByteArray := prog_3_method_15_code
def y_O_removeMethod : MethodName := ⟨R_O, "removeMethod", "(I)Z"⟩
abbrev b_O_becomeAs : ByteArray := prog_3_method_16_code
def y_O_becomeAs : MethodName := ⟨R_O, "becomeAs", "(LApiCompare$Offer;)V"⟩
abbrev b_O_supertypesOf : ByteArray := prog_3_method_17_code
def y_O_supertypesOf : MethodName := ⟨R_O, "supertypesOf", "(I)I"⟩
abbrev b_O_findField : ByteArray := prog_3_method_18_code
def y_O_findField : MethodName := ⟨R_O, "findField", "(III)I"⟩
abbrev b_O_findFieldFrom : ByteArray := prog_3_method_19_code
def y_O_findFieldFrom : MethodName := ⟨R_O, "findFieldFrom", "(IIII)I"⟩
abbrev b_O_findMethod : ByteArray := prog_3_method_20_code
def y_O_findMethod : MethodName := ⟨R_O, "findMethod", "(IIII)I"⟩
abbrev b_O_isMethodAt : ByteArray := prog_3_method_21_code
def y_O_isMethodAt : MethodName := ⟨R_O, "isMethodAt", "(II)Z"⟩
abbrev b_O_differencesFrom : ByteArray := prog_3_method_22_code
def y_O_differencesFrom : MethodName := ⟨R_O, "differencesFrom", "(LApiCompare$Offer;I)I"⟩
abbrev b_O_isSameField : ByteArray := prog_3_method_23_code
def y_O_isSameField : MethodName := ⟨R_O, "isSameField", "(LApiCompare$Offer;I)Z"⟩
abbrev b_O_isSameMethod : ByteArray := prog_3_method_24_code
def y_O_isSameMethod : MethodName := ⟨R_O, "isSameMethod", "(LApiCompare$Offer;I)Z"⟩
abbrev b_U_init : ByteArray := prog_4_method_1_code
def y_U_init : MethodName := ⟨R_U, "<init>", "()V"⟩
abbrev b_U_tell : ByteArray := prog_4_method_2_code
def y_U_tell : MethodName := ⟨R_U, "tell", "(IIII)V"⟩
def y_L_law : MethodName := ⟨R_L, "law", "([I)Z"⟩
abbrev vwCl : List vw_C := [(R_B, T_B, 9), (R_O, T_O, 8), (R_U, T_U, 4), (R_A, T_A, 6), (R_M, T_M, 13)]
abbrev zk_tys (dA : Nat → ClassId) : List (ClassId × FieldType) := [(dA 0, .int), (dA 1, .object "ApiCompare$Use"), (dA 2, .boolean)]
end
section
/-! THE ENGINE: an abstract heap (cells by number, references by number), translated to the machine's by one base; a row an instruction, a row a call. -/
abbrev zk_E : Type := (Nat × vp_A) ⊕ (Nat × List Value)
abbrev zk_H : Type := List zk_E
/-- number 0 is the law's script, number i + 1 the i-th cell made -/
def zk_ad (b base : Nat) (i : Nat) : Nat := match i with
  | 0 => b
  | j + 1 => base + j
def zk_v (b base : Nat) (v : Value) : Value := match v with
  | .ref i => .ref (zk_ad b base i)
  | .int x => .int x
  | .long x => .long x
  | .float x => .float x
  | .double x => .double x
  | .null => .null
  | .retAddr x => .retAddr x
def zk_a (b base : Nat) (a : vp_A) : vp_A := match a with
  | (n, .inl f) => (n, .inl f)
  | (n, .inr (.inl f)) => (n, .inr (.inl f))
  | (n, .inr (.inr (.inl f))) => (n, .inr (.inr (.inl f)))
  | (n, .inr (.inr (.inr (.inl f)))) => (n, .inr (.inr (.inr (.inl f))))
  | (n, .inr (.inr (.inr (.inr f)))) => (n, .inr (.inr (.inr (.inr (fun j => (f j).map (zk_ad b base))))))
def zk_e (dA : Nat → ClassId) (b base : Nat) (x : zk_E) : va_E := match x with
  | .inl (t, a) => .inl (dA t, zk_a b base a)
  | .inr (ci, fs) => .inr (ci, fs.map (zk_v b base))
def zk_w (dA : Nat → ClassId) (b base : Nat) (h : zk_H) : va_W := h.mapIdx (fun i x => (base + i, zk_e dA b base x))
theorem zk_cat (b base : Nat) (v : Value) : (zk_v b base v).category = v.category := by cases v <;> rfl
theorem zk_w_get {dA : Nat → ClassId} {b base : Nat} {h : zk_H} {i : Nat} {x : zk_E} (hh : h[i]? = some x) : (zk_w dA b base h)[i]? = some (base + i, zk_e dA b base x) := by
  unfold zk_w
  rw [List.getElem?_mapIdx, hh]
  rfl
theorem zk_w_set (dA : Nat → ClassId) (b base : Nat) (h : zk_H) (i : Nat) (x : zk_E) : (zk_w dA b base h).set i (base + i, zk_e dA b base x) = zk_w dA b base (h.set i x) := by
  unfold zk_w
  rw [List.mapIdx_set]
theorem zk_w_push (dA : Nat → ClassId) (b base : Nat) (h : zk_H) (x : zk_E) : zk_w dA b base h ++ [(base + h.length, zk_e dA b base x)] = zk_w dA b base (h ++ [x]) := by
  unfold zk_w
  rw [List.mapIdx_append]
  simp
theorem zk_w_D (dA : Nat → ClassId) (b base : Nat) (h : zk_H) : va_D (fun q : Nat => base ≤ q) (zk_w dA b base h) := by
  have key : ∀ (k : Nat) (q : Nat × va_E), (zk_w dA b base h)[k]? = some q → q.1 = base + k := by
    intro k q hk
    unfold zk_w at hk
    rw [List.getElem?_mapIdx] at hk
    cases hx : h[k]? with
    | none => rw [hx] at hk; cases hk
    | some x => rw [hx] at hk; cases hk; rfl
  refine ⟨fun i j p q hi hj hpq => ?_, fun k q hk => ?_⟩
  · have h1 := key i p hi
    have h2 := key j q hj
    omega
  · rw [key k q hk]
    exact Nat.le_add_right _ _
/-- the locals, by place -/
def zk_l (b base : Nat) (ls : Array Slot) (nL : Nat) (ll : List (Option Value)) : Prop := ls.size = nL ∧ lv_wf ls ∧ ∀ (i : Nat) (v : Value), ll[i]? = some (some v) → ls[i]? = some (.val (zk_v b base v))
def zk_ll (b base : Nat) (ll : List (Option Value)) : List (Nat × Value) := ll.zipIdx.filterMap (fun q => q.1.map (fun v => (q.2, zk_v b base v)))
theorem zk_ll_mem {b base : Nat} {ll : List (Option Value)} {q : Nat × Value} : q ∈ zk_ll b base ll ↔ ∃ v, ll[q.1]? = some (some v) ∧ q.2 = zk_v b base v := by
  unfold zk_ll
  rw [List.mem_filterMap]
  constructor
  · rintro ⟨⟨o, i⟩, hm, hq⟩
    rw [List.mk_mem_zipIdx_iff_getElem?] at hm
    cases o with
    | none => cases hq
    | some v => cases hq; exact ⟨v, hm, rfl⟩
  · rintro ⟨v, hv, he⟩
    refine ⟨(some v, q.1), List.mk_mem_zipIdx_iff_getElem?.mpr hv, ?_⟩
    show some (q.1, zk_v b base v) = some q
    rw [← he]
theorem zk_l_has {b base : Nat} {ls : Array Slot} {nL : Nat} {ll : List (Option Value)} (h : zk_l b base ls nL ll) : lv_has ls nL (zk_ll b base ll) :=
  ⟨h.1, h.2.1, fun q hq => by obtain ⟨v, hv, he⟩ := zk_ll_mem.mp hq; rw [he]; exact h.2.2 q.1 v hv⟩
def zk_ok (ll : List (Option Value)) (i : Nat) : Bool := match i with
  | 0 => true
  | j + 1 => match ll[j]? with
    | some (some v) => v.category == 1
    | _ => true
theorem zk_ok_at {ll : List (Option Value)} {j : Nat} {u : Value} (hok : zk_ok ll (j + 1) = true) (hj : ll[j]? = some (some u)) : u.category = 1 := by
  unfold zk_ok at hok
  simp only [hj] at hok
  exact beq_iff_eq.mp hok
theorem zk_l_st1 {b base : Nat} {ls : Array Slot} {nL i : Nat} {ll : List (Option Value)} {v : Value} (hok : zk_ok ll i = true) (h : lv_has ls nL ((i, zk_v b base v) :: (zk_ll b base ll).filter (fun q => !(q.1 == i) && !(q.1 + 1 == i && q.2.category == 2)))) : zk_l b base ls nL (ll.set i (some v)) := by
  refine ⟨h.1, h.2.1, fun j u hj => ?_⟩
  rw [List.getElem?_set] at hj
  by_cases hji : i = j
  · subst hji
    rw [if_pos rfl] at hj
    by_cases hlt : i < ll.length
    · rw [if_pos hlt] at hj
      cases hj
      exact h.2.2 (i, zk_v b base v) List.mem_cons_self
    · rw [if_neg hlt] at hj
      cases hj
  · rw [if_neg hji] at hj
    refine h.2.2 (j, zk_v b base u) (List.mem_cons_of_mem _ (List.mem_filter.mpr ⟨zk_ll_mem.mpr ⟨u, hj, rfl⟩, ?_⟩))
    have hne : ¬ j = i := fun e => hji e.symm
    by_cases hs : j + 1 = i
    · subst hs
      have h1 := zk_ok_at hok hj
      simp [zk_cat, h1]
    · simp [hne, hs]
theorem zk_l_st2 {b base : Nat} {ls : Array Slot} {nL i : Nat} {ll : List (Option Value)} {v : Value} (hok : zk_ok ll i = true) (h : lv_has ls nL ((i, zk_v b base v) :: (zk_ll b base ll).filter (fun q => !(q.1 == i) && (!(q.1 == i + 1) && !(q.1 + 1 == i && q.2.category == 2))))) : zk_l b base ls nL ((ll.set i (some v)).set (i + 1) none) := by
  refine ⟨h.1, h.2.1, fun j u hj => ?_⟩
  rw [List.getElem?_set] at hj
  by_cases hj1 : i + 1 = j
  · rw [if_pos hj1] at hj
    by_cases hlt : i + 1 < (ll.set i (some v)).length
    · rw [if_pos hlt] at hj
      cases hj
    · rw [if_neg hlt] at hj
      cases hj
  · rw [if_neg hj1, List.getElem?_set] at hj
    by_cases hji : i = j
    · subst hji
      rw [if_pos rfl] at hj
      by_cases hlt : i < ll.length
      · rw [if_pos hlt] at hj
        cases hj
        exact h.2.2 (i, zk_v b base v) List.mem_cons_self
      · rw [if_neg hlt] at hj
        cases hj
    · rw [if_neg hji] at hj
      refine h.2.2 (j, zk_v b base u) (List.mem_cons_of_mem _ (List.mem_filter.mpr ⟨zk_ll_mem.mpr ⟨u, hj, rfl⟩, ?_⟩))
      have hne : ¬ j = i := fun e => hji e.symm
      have hne1 : ¬ j = i + 1 := fun e => hj1 e.symm
      by_cases hs : j + 1 = i
      · subst hs
        have h1 := zk_ok_at hok hj
        simp [zk_cat, h1]
        omega
      · simp [hne, hne1, hs]
theorem zk_l_drop {b base : Nat} {ls : Array Slot} {nL : Nat} {ll : List (Option Value)} (i : Nat) (h : zk_l b base ls nL ll) : zk_l b base ls nL (ll.set i none) := by
  refine ⟨h.1, h.2.1, fun j u hj => h.2.2 j u ?_⟩
  rw [List.getElem?_set] at hj
  by_cases hji : i = j
  · rw [if_pos hji] at hj
    by_cases hlt : i < ll.length
    · rw [if_pos hlt] at hj
      cases hj
    · rw [if_neg hlt] at hj
      cases hj
  · rw [if_neg hji] at hj
    exact hj
/-- the tables' words, for any arguments -/
def zk_good (w : Cond) : Bool := match w with
  | .fieldLinkNest .. => true
  | .methodLinkNest .. => true
  | .arrayClass _ => true
  | .arrayOver (.object _) => true
  | w => w.onTables && w.keeps
theorem zk_good_warm {s U : State} (hW : s.WarmedH U.vm) {w : Cond} (hg : zk_good w = true) (h : ∀ a : Array Value, w.before a s = true) (a : Array Value) : w.before a U = true := by
  unfold zk_good at hg
  split at hg
  · exact va_Nw.use rfl (va_Nw.warmF hW (h #[]))
  · exact va_Nw.use rfl (va_Nw.warmM hW (h #[]))
  · exact word_at hW (Or.inr ⟨_, rfl⟩) (h #[])
  · exact va_AO.use (va_AO.moved hW.alike (h #[]))
  · exact word_at hW (Or.inl hg) (h #[])
def zk_tb : List Cond := lw_tbl.filter zk_good
theorem zk_in {w : Cond} (h : w ∈ lw_tbl) (hg : zk_good w = true) : w ∈ zk_tb := List.mem_filter.mpr ⟨h, hg⟩
theorem zk_good_all : ∀ w ∈ zk_tb, zk_good w = true := fun _ hw => (List.mem_filter.mp hw).2
def zk_T (U : State) : Prop := ∀ w ∈ zk_tb, ∀ a : Array Value, w.before a U = true
theorem zk_T_warm {s U : State} (hW : s.WarmedH U.vm) (h : zk_T s) : zk_T U := fun w hw a => zk_good_warm hW (zk_good_all w hw) (h w hw) a
def zk_K (D : va_G) (dA : Nat → ClassId) (U : State) : Prop := va_K D vwCl (zk_tys dA) U ∧ zk_T U
theorem zk_K_warm {D : va_G} {dA : Nat → ClassId} {s U : State} (hW : s.WarmedH U.vm) (h : zk_K D dA s) : zk_K D dA U := ⟨va_K.moved hW.alike h.1, zk_T_warm hW h.2⟩
/-- what stands fast in a method's walk -/
def zk_C (p : Program) (s : State) (m : MethodId) (meth : Method) (c : Code) (cc : ByteArray) (nL : Nat) (own nm : String) (ret : Option FieldType) (D : va_G) (dA : Nat → ClassId) (base sz : Nat) : Prop :=
  p.tables.exec = Jvm.exec ∧ c.code = cc ∧ c.maxLocals = nL ∧ s.vm.findClass own = some m.cls ∧ zk_K D dA s ∧ s.heap.size = base + sz ∧ meth.locks = false ∧ meth.sig.returnType = ret ∧ meth.name = nm
/-- the machine at pc, with locals ll, stack st, heap h, comes to Q -/
def zk_V (p : Program) (l : Launch) (e : Env) (R : Room) (s : State) (m : MethodId) (args : Array Value) (below : List Frame) (meth : Method) (c : Code) (nL : Nat) (D : va_G) (dA : Nat → ClassId) (b base : Nat) (Q : State → Prop) (kc ks pc : Nat) (ll : List (Option Value)) (st : List Value) (h : zk_H) : Prop :=
  ∀ (H : Heap) (locs : List Loc) (ls : Array Slot), zk_l b base ls nL ll → va_P D vwCl (zk_w dA b base h) H → H.size = base + h.length → va_S (fun q : Nat => base ≤ q) s.heap H locs → W p l e R s m args below meth c H locs kc ks Q (F0 m pc ls (st.map (zk_v b base)))
/-- a method's contract: from these arguments and this heap it returns, and K holds of its answer and of the heap -/
def zk_P (D : va_G) (dA : Nat → ClassId) (b base : Nat) (as : List Value) (h : zk_H) : Array Value → State → Prop := fun v U => v = (as.map (zk_v b base)).toArray ∧ va_P D vwCl (zk_w dA b base h) U.heap ∧ U.heap.size = base + h.length ∧ zk_K D dA U
def zk_Q (K : Option Value → zk_H → Prop) (D : va_G) (dA : Nat → ClassId) (b base : Nat) : Array Value → State → Outcome → State → Prop := fun _ st o t => (∃ (r : Option Value) (h : zk_H), o = .returned (r.map (zk_v b base)) ∧ K r h ∧ va_P D vwCl (zk_w dA b base h) t.heap ∧ t.heap.size = base + h.length) ∧ va_F (fun q : Nat => base ≤ q) st t
def zk_S (l : Launch) (y : MethodName) (bytes : ByteArray) (maxL : Nat) (ret : Option FieldType) (rm : Room) (as : List Value) (h : zk_H) (K : Option Value → zk_H → Prop) : Prop :=
  ∀ (D : va_G) (dA : Nat → ClassId) (b base : Nat), Met l y [.code y bytes maxL ret] rm (zk_P D dA b base as h) (zk_Q K D dA b base) rm.cells rm.slots (fun q : Nat => base ≤ q)
theorem zk_P_blind {D : va_G} {dA : Nat → ClassId} {b base : Nat} {as : List Value} {h : zk_H} : FrameBlind (zk_P D dA b base as h) := fun a U g mk q => by
  obtain ⟨q0, q1, q2, q3⟩ := q
  exact ⟨q0, q1, q2, zk_K_warm (s := U) (U := U.calling g mk a) (State.WarmedH.refl U) q3⟩
def zk_ent : List Value → List (Option Value)
  | [] => []
  | v :: l => if v.category = 2 then some v :: none :: zk_ent l else some v :: zk_ent l
theorem zk_ent_args (b base : Nat) : ∀ (as : List Value) (k i : Nat) (v : Value), (zk_ent as)[i]? = some (some v) → (k + i, zk_v b base v) ∈ lv_args k (as.map (zk_v b base))
  | [], k, i, v, h => by simp [zk_ent] at h
  | a :: as, k, i, v, h => by
    have hc := zk_cat b base a
    unfold zk_ent at h
    rw [List.map_cons]
    unfold lv_args
    by_cases h2 : a.category = 2
    · rw [if_pos h2] at h
      rw [h2] at hc
      rw [if_pos hc]
      cases i with
      | zero => simp at h; subst h; exact List.mem_cons_self
      | succ i =>
        cases i with
        | zero => simp at h
        | succ i =>
          have h3 : (zk_ent as)[i]? = some (some v) := by simpa using h
          have h4 := zk_ent_args b base as (k + 2) i v h3
          refine List.mem_cons_of_mem _ ?_
          rw [show k + (i + 1 + 1) = k + 2 + i by omega]
          exact h4
    · rw [if_neg h2] at h
      rw [if_neg (by rw [hc]; exact h2)]
      cases i with
      | zero => simp at h; subst h; exact List.mem_cons_self
      | succ i =>
        have h3 : (zk_ent as)[i]? = some (some v) := by simpa using h
        have h4 := zk_ent_args b base as (k + 1) i v h3
        refine List.mem_cons_of_mem _ ?_
        rw [show k + (i + 1) = k + 1 + i by omega]
        exact h4
theorem zk_sl_len (b base : Nat) : ∀ as : List Value, (lg_sl (as.map (zk_v b base))).length = (lg_sl as).length
  | [] => rfl
  | a :: as => by
    have ih := zk_sl_len b base as
    unfold lg_sl at ih ⊢
    rw [List.map_cons, List.flatMap_cons, List.flatMap_cons, List.length_append, List.length_append, ih, zk_cat]
    by_cases h2 : a.category = 2
    · rw [if_pos h2, if_pos h2]; rfl
    · rw [if_neg h2, if_neg h2]; rfl
def zk_push (r : Option Value) (rest : List Value) : List Value := match r with
  | none => rest
  | some v => v :: rest
/-- a contract, out of the walk of the method's body from its entry -/
theorem zk_S_of {l : Launch} {y : MethodName} {bytes : ByteArray} {maxL : Nat} {ret : Option FieldType} {rm : Room} {as : List Value} {h : zk_H} {K : Option Value → zk_H → Prop} (own nm : String) (hy : plainName y.cls = true) (how : y.cls = own) (hnm : y.name = nm) (ll0 : List (Option Value)) (k : Nat) (hll : zk_ent as ++ List.replicate k none = ll0) (hlen : (lg_sl as).length ≤ maxL)
    (body : ∀ (p : Program) (e : Env) (s : State) (m : MethodId) (args : Array Value) (below : List Frame) (meth : Method) (c : Code) (D : va_G) (dA : Nat → ClassId) (b base : Nat), zk_C p s m meth c bytes maxL own nm ret D dA base h.length → zk_V p l e rm s m args below meth c maxL D dA b base (MQ below (zk_Q K D dA b base) args s rm.cells rm.slots (fun q : Nat => base ≤ q)) 0 0 0 ll0 [] h) : zk_S l y bytes maxL ret rm as h K := by
  intro D dA b base
  refine Met.ofW (cc := bytes) (maxL := maxL) (ret := ret) hy rfl ?_
  intro p e s m args below meth c s₁ B hml hv
  obtain ⟨rfl, hP, hz, hK⟩ := hv
  have C : zk_C p s m meth c bytes maxL own nm ret D dA base h.length := ⟨B.exec, B.bytes, hml, by rw [← how]; exact findClass_of_methodNamed B.named, hK, hz, B.notSynchronized, B.returns, by rw [← hnm]; exact (name_of_methodNamed B.named B.method).1⟩
  have hl := lv_entry (as.map (zk_v b base)) (n := maxL) (by rw [zk_sl_len]; exact hlen)
  rw [lg_entry_eq]
  refine body p e s m _ below meth c D dA b base C s.heap [] _ ?_ hP hz va_S.rf
  refine ⟨hl.1, hl.2.1, fun i v hi => ?_⟩
  have h1 : (zk_ent as)[i]? = some (some v) := by
    rw [← hll] at hi
    by_cases hlt : i < (zk_ent as).length
    · rw [List.getElem?_append_left hlt] at hi
      exact hi
    · rw [List.getElem?_append_right (by omega)] at hi
      have h2 := List.eq_of_mem_replicate (List.mem_of_getElem? hi)
      cases h2
  have h3 := hl.2.2 _ (zk_ent_args b base as 0 i v h1)
  rw [Nat.zero_add] at h3
  exact h3
def zk_b (c : Bool) : Int32 := match c with
  | true => nI 1
  | false => nI 0
theorem zk_bz {c : Bool} (h : zk_b c = 0) : c = false := by
  cases c with
  | false => rfl
  | true => exact absurd h (by decide)
theorem zk_bn {c : Bool} (h : ¬ zk_b c = 0) : c = true := by
  cases c with
  | false => exact absurd (by decide) h
  | true => rfl
theorem zk_nb (c : Bool) : narrow .boolean (.int (zk_b c)) = .int (zk_b c) := by cases c <;> decide
theorem zk_g1 {h : zk_H} {i j : Nat} {x : zk_E} {y : Option zk_E} (hne : i ≠ j) (hh : h[j]? = y) : (h.set i x)[j]? = y := by rw [List.getElem?_set_ne hne]; exact hh
theorem zk_g0 {h : zk_H} {i : Nat} {x y : zk_E} (hh : h[i]? = some y) : (h.set i x)[i]? = some x := List.getElem?_set_self (List.getElem?_eq_some_iff.mp hh).1
section ZR
variable {p : Program} {l : Launch} {e : Env} {R : Room} {s : State} {m : MethodId} {args : Array Value} {below : List Frame} {meth : Method} {c : Code} {cc : ByteArray} {nL : Nat} {own nm : String} {ret : Option FieldType} {D : va_G} {dA : Nat → ClassId} {b base sz : Nat} {Q : State → Prop} {kc ks pc : Nat} {ll : List (Option Value)} {st : List Value} {h : zk_H}
theorem zk_T_at {s : State} {args : Array Value} {D : va_G} {dA : Nat → ClassId} (hK : zk_K D dA s) : ∀ w ∈ zk_tb, w.before args s = true := fun w hw => hK.2 w hw args
theorem zr_iconst (C : zk_C p s m meth c cc nL own nm ret D dA base sz) {i : Int} {v : Int32} (hd : decode cc pc = .ok (.iconst i, 1)) {n : Nat} (hn : pc + 1 = n) (hv : Int32.ofInt i = v) (k : zk_V p l e R s m args below meth c nL D dA b base Q kc ks n ll (.int v :: st) h) : zk_V p l e R s m args below meth c nL D dA b base Q kc ks pc ll st h := by
  subst hn
  exact fun H locs ls hl hP hz hS => lv_iconst C.1 C.2.1 hd hv (k H locs ls hl hP hz hS)
theorem zr_bipush (C : zk_C p s m meth c cc nL own nm ret D dA base sz) {i : Int} {v : Int32} (hd : decode cc pc = .ok (.bipush i, 2)) {n : Nat} (hn : pc + 2 = n) (hv : (Int8.ofInt i).toInt32 = v) (k : zk_V p l e R s m args below meth c nL D dA b base Q kc ks n ll (.int v :: st) h) : zk_V p l e R s m args below meth c nL D dA b base Q kc ks pc ll st h := by
  subst hn
  exact fun H locs ls hl hP hz hS => lv_bipush C.1 C.2.1 hd hv (k H locs ls hl hP hz hS)
theorem zr_sipush (C : zk_C p s m meth c cc nL own nm ret D dA base sz) {i : Int} {v : Int32} (hd : decode cc pc = .ok (.sipush i, 3)) {n : Nat} (hn : pc + 3 = n) (hv : (Int16.ofInt i).toInt32 = v) (k : zk_V p l e R s m args below meth c nL D dA b base Q kc ks n ll (.int v :: st) h) : zk_V p l e R s m args below meth c nL D dA b base Q kc ks pc ll st h := by
  subst hn
  exact fun H locs ls hl hP hz hS => lv_sipush C.1 C.2.1 hd hv (k H locs ls hl hP hz hS)
theorem zr_dconst0 (C : zk_C p s m meth c cc nL own nm ret D dA base sz)  (hd : decode cc pc = .ok (.dconst 0, 1)) {n : Nat} (hn : pc + 1 = n)  (k : zk_V p l e R s m args below meth c nL D dA b base Q kc ks n ll (.double FP.dconst0 :: st) h) : zk_V p l e R s m args below meth c nL D dA b base Q kc ks pc ll st h := by
  subst hn
  exact fun H locs ls hl hP hz hS => lv_dconst0 C.1 C.2.1 hd (k H locs ls hl hP hz hS)
theorem zr_dconst1 (C : zk_C p s m meth c cc nL own nm ret D dA base sz)  (hd : decode cc pc = .ok (.dconst 1, 1)) {n : Nat} (hn : pc + 1 = n)  (k : zk_V p l e R s m args below meth c nL D dA b base Q kc ks n ll (.double FP.dconst1 :: st) h) : zk_V p l e R s m args below meth c nL D dA b base Q kc ks pc ll st h := by
  subst hn
  exact fun H locs ls hl hP hz hS => lv_dconst1 C.1 C.2.1 hd (k H locs ls hl hP hz hS)
theorem zr_iload_n (C : zk_C p s m meth c cc nL own nm ret D dA base sz) {k0 : Fin 4} {x : Int32} (hd : decode cc pc = .ok (.iload_n k0, 1)) {n : Nat} (hn : pc + 1 = n) (hx : ll[(k0 : Nat)]? = some (some (.int x))) (k : zk_V p l e R s m args below meth c nL D dA b base Q kc ks n ll (.int x :: st) h) : zk_V p l e R s m args below meth c nL D dA b base Q kc ks pc ll st h := by
  subst hn
  exact fun H locs ls hl hP hz hS => lv_iload_n C.1 C.2.1 hd rfl (hl.2.2 _ _ hx) (k H locs ls hl hP hz hS)
theorem zr_iload (C : zk_C p s m meth c cc nL own nm ret D dA base sz) {k0 : Nat} {x : Int32} (hd : decode cc pc = .ok (.iload k0, 2)) {n : Nat} (hn : pc + 2 = n) (hx : ll[k0]? = some (some (.int x))) (k : zk_V p l e R s m args below meth c nL D dA b base Q kc ks n ll (.int x :: st) h) : zk_V p l e R s m args below meth c nL D dA b base Q kc ks pc ll st h := by
  subst hn
  exact fun H locs ls hl hP hz hS => lv_iload C.1 C.2.1 hd (hl.2.2 _ _ hx) (k H locs ls hl hP hz hS)
theorem zr_dload_n (C : zk_C p s m meth c cc nL own nm ret D dA base sz) {k0 : Fin 4} {x : UInt64} (hd : decode cc pc = .ok (.dload_n k0, 1)) {n : Nat} (hn : pc + 1 = n) (hx : ll[(k0 : Nat)]? = some (some (.double x))) (k : zk_V p l e R s m args below meth c nL D dA b base Q kc ks n ll (.double x :: st) h) : zk_V p l e R s m args below meth c nL D dA b base Q kc ks pc ll st h := by
  subst hn
  exact fun H locs ls hl hP hz hS => lv_dload_n C.1 C.2.1 hd rfl (hl.2.2 _ _ hx) (k H locs ls hl hP hz hS)
theorem zr_dload (C : zk_C p s m meth c cc nL own nm ret D dA base sz) {k0 : Nat} {x : UInt64} (hd : decode cc pc = .ok (.dload k0, 2)) {n : Nat} (hn : pc + 2 = n) (hx : ll[k0]? = some (some (.double x))) (k : zk_V p l e R s m args below meth c nL D dA b base Q kc ks n ll (.double x :: st) h) : zk_V p l e R s m args below meth c nL D dA b base Q kc ks pc ll st h := by
  subst hn
  exact fun H locs ls hl hP hz hS => lv_dload C.1 C.2.1 hd (hl.2.2 _ _ hx) (k H locs ls hl hP hz hS)
theorem zr_aload_n (C : zk_C p s m meth c cc nL own nm ret D dA base sz) {k0 : Fin 4} {x : Nat} (hd : decode cc pc = .ok (.aload_n k0, 1)) {n : Nat} (hn : pc + 1 = n) (hx : ll[(k0 : Nat)]? = some (some (.ref x))) (k : zk_V p l e R s m args below meth c nL D dA b base Q kc ks n ll (.ref x :: st) h) : zk_V p l e R s m args below meth c nL D dA b base Q kc ks pc ll st h := by
  subst hn
  exact fun H locs ls hl hP hz hS => lv_aload_n C.1 C.2.1 hd rfl (hl.2.2 _ _ hx) (k H locs ls hl hP hz hS)
theorem zr_aload (C : zk_C p s m meth c cc nL own nm ret D dA base sz) {k0 : Nat} {x : Nat} (hd : decode cc pc = .ok (.aload k0, 2)) {n : Nat} (hn : pc + 2 = n) (hx : ll[k0]? = some (some (.ref x))) (k : zk_V p l e R s m args below meth c nL D dA b base Q kc ks n ll (.ref x :: st) h) : zk_V p l e R s m args below meth c nL D dA b base Q kc ks pc ll st h := by
  subst hn
  exact fun H locs ls hl hP hz hS => lv_aload C.1 C.2.1 hd (hl.2.2 _ _ hx) (k H locs ls hl hP hz hS)
theorem zr_iadd (C : zk_C p s m meth c cc nL own nm ret D dA base sz) {x y : Int32} (hd : decode cc pc = .ok (.iadd, 1)) {n : Nat} (hn : pc + 1 = n)  (k : zk_V p l e R s m args below meth c nL D dA b base Q kc ks n ll (.int (x + y) :: st) h) : zk_V p l e R s m args below meth c nL D dA b base Q kc ks pc ll (.int y :: .int x :: st) h := by
  subst hn
  exact fun H locs ls hl hP hz hS => lv_iadd C.1 C.2.1 hd (k H locs ls hl hP hz hS)
theorem zr_isub (C : zk_C p s m meth c cc nL own nm ret D dA base sz) {x y : Int32} (hd : decode cc pc = .ok (.isub, 1)) {n : Nat} (hn : pc + 1 = n)  (k : zk_V p l e R s m args below meth c nL D dA b base Q kc ks n ll (.int (x - y) :: st) h) : zk_V p l e R s m args below meth c nL D dA b base Q kc ks pc ll (.int y :: .int x :: st) h := by
  subst hn
  exact fun H locs ls hl hP hz hS => lv_isub C.1 C.2.1 hd (k H locs ls hl hP hz hS)
theorem zr_imul (C : zk_C p s m meth c cc nL own nm ret D dA base sz) {x y : Int32} (hd : decode cc pc = .ok (.imul, 1)) {n : Nat} (hn : pc + 1 = n)  (k : zk_V p l e R s m args below meth c nL D dA b base Q kc ks n ll (.int (x * y) :: st) h) : zk_V p l e R s m args below meth c nL D dA b base Q kc ks pc ll (.int y :: .int x :: st) h := by
  subst hn
  exact fun H locs ls hl hP hz hS => lv_imul C.1 C.2.1 hd (k H locs ls hl hP hz hS)
theorem zr_iand (C : zk_C p s m meth c cc nL own nm ret D dA base sz) {x y : Int32} (hd : decode cc pc = .ok (.iand, 1)) {n : Nat} (hn : pc + 1 = n)  (k : zk_V p l e R s m args below meth c nL D dA b base Q kc ks n ll (.int (x &&& y) :: st) h) : zk_V p l e R s m args below meth c nL D dA b base Q kc ks pc ll (.int y :: .int x :: st) h := by
  subst hn
  exact fun H locs ls hl hP hz hS => lv_iand C.1 C.2.1 hd (k H locs ls hl hP hz hS)
theorem zr_ior (C : zk_C p s m meth c cc nL own nm ret D dA base sz) {x y : Int32} (hd : decode cc pc = .ok (.ior, 1)) {n : Nat} (hn : pc + 1 = n)  (k : zk_V p l e R s m args below meth c nL D dA b base Q kc ks n ll (.int (x ||| y) :: st) h) : zk_V p l e R s m args below meth c nL D dA b base Q kc ks pc ll (.int y :: .int x :: st) h := by
  subst hn
  exact fun H locs ls hl hP hz hS => lv_ior C.1 C.2.1 hd (k H locs ls hl hP hz hS)
theorem zr_ixor (C : zk_C p s m meth c cc nL own nm ret D dA base sz) {x y : Int32} (hd : decode cc pc = .ok (.ixor, 1)) {n : Nat} (hn : pc + 1 = n)  (k : zk_V p l e R s m args below meth c nL D dA b base Q kc ks n ll (.int (x ^^^ y) :: st) h) : zk_V p l e R s m args below meth c nL D dA b base Q kc ks pc ll (.int y :: .int x :: st) h := by
  subst hn
  exact fun H locs ls hl hP hz hS => lv_ixor C.1 C.2.1 hd (k H locs ls hl hP hz hS)
theorem zr_ishl (C : zk_C p s m meth c cc nL own nm ret D dA base sz) {x y : Int32} (hd : decode cc pc = .ok (.ishl, 1)) {n : Nat} (hn : pc + 1 = n)  (k : zk_V p l e R s m args below meth c nL D dA b base Q kc ks n ll (.int (x <<< (y &&& 31)) :: st) h) : zk_V p l e R s m args below meth c nL D dA b base Q kc ks pc ll (.int y :: .int x :: st) h := by
  subst hn
  exact fun H locs ls hl hP hz hS => lv_ishl C.1 C.2.1 hd (k H locs ls hl hP hz hS)
theorem zr_ishr (C : zk_C p s m meth c cc nL own nm ret D dA base sz) {x y : Int32} (hd : decode cc pc = .ok (.ishr, 1)) {n : Nat} (hn : pc + 1 = n)  (k : zk_V p l e R s m args below meth c nL D dA b base Q kc ks n ll (.int (x >>> (y &&& 31)) :: st) h) : zk_V p l e R s m args below meth c nL D dA b base Q kc ks pc ll (.int y :: .int x :: st) h := by
  subst hn
  exact fun H locs ls hl hP hz hS => lv_ishr C.1 C.2.1 hd (k H locs ls hl hP hz hS)
theorem zr_idiv (C : zk_C p s m meth c cc nL own nm ret D dA base sz) {x y : Int32} (hd : decode cc pc = .ok (.idiv, 1)) {n : Nat} (hn : pc + 1 = n) (hne : ¬ y = 0) (k : zk_V p l e R s m args below meth c nL D dA b base Q kc ks n ll (.int (x / y) :: st) h) : zk_V p l e R s m args below meth c nL D dA b base Q kc ks pc ll (.int y :: .int x :: st) h := by
  subst hn
  exact fun H locs ls hl hP hz hS => lv_idiv C.1 C.2.1 hd hne (k H locs ls hl hP hz hS)
theorem zr_irem (C : zk_C p s m meth c cc nL own nm ret D dA base sz) {x y : Int32} (hd : decode cc pc = .ok (.irem, 1)) {n : Nat} (hn : pc + 1 = n) (hne : ¬ y = 0) (k : zk_V p l e R s m args below meth c nL D dA b base Q kc ks n ll (.int (x - x / y * y) :: st) h) : zk_V p l e R s m args below meth c nL D dA b base Q kc ks pc ll (.int y :: .int x :: st) h := by
  subst hn
  exact fun H locs ls hl hP hz hS => lv_irem C.1 C.2.1 hd hne (k H locs ls hl hP hz hS)
theorem zr_ineg (C : zk_C p s m meth c cc nL own nm ret D dA base sz) {x : Int32} (hd : decode cc pc = .ok (.ineg, 1)) {n : Nat} (hn : pc + 1 = n)  (k : zk_V p l e R s m args below meth c nL D dA b base Q kc ks n ll (.int (-x) :: st) h) : zk_V p l e R s m args below meth c nL D dA b base Q kc ks pc ll (.int x :: st) h := by
  subst hn
  exact fun H locs ls hl hP hz hS => lv_ineg C.1 C.2.1 hd (k H locs ls hl hP hz hS)
theorem zr_i2d (C : zk_C p s m meth c cc nL own nm ret D dA base sz) {x : Int32} (hd : decode cc pc = .ok (.i2d, 1)) {n : Nat} (hn : pc + 1 = n)  (k : zk_V p l e R s m args below meth c nL D dA b base Q kc ks n ll (.double (FP.i2d x) :: st) h) : zk_V p l e R s m args below meth c nL D dA b base Q kc ks pc ll (.int x :: st) h := by
  subst hn
  exact fun H locs ls hl hP hz hS => lv_i2d C.1 C.2.1 hd (k H locs ls hl hP hz hS)
theorem zr_dmul (C : zk_C p s m meth c cc nL own nm ret D dA base sz) {x y : UInt64} (hd : decode cc pc = .ok (.dmul, 1)) {n : Nat} (hn : pc + 1 = n) (hne : vf_n64 (FP.dmul x y)) (k : zk_V p l e R s m args below meth c nL D dA b base Q kc ks n ll (.double (FP.dmul x y) :: st) h) : zk_V p l e R s m args below meth c nL D dA b base Q kc ks pc ll (.double y :: .double x :: st) h := by
  subst hn
  exact fun H locs ls hl hP hz hS => lv_dmul C.1 C.2.1 hd hne (k H locs ls hl hP hz hS)
theorem zr_ddiv (C : zk_C p s m meth c cc nL own nm ret D dA base sz) {x y : UInt64} (hd : decode cc pc = .ok (.ddiv, 1)) {n : Nat} (hn : pc + 1 = n) (hne : vf_n64 (FP.ddiv x y)) (k : zk_V p l e R s m args below meth c nL D dA b base Q kc ks n ll (.double (FP.ddiv x y) :: st) h) : zk_V p l e R s m args below meth c nL D dA b base Q kc ks pc ll (.double y :: .double x :: st) h := by
  subst hn
  exact fun H locs ls hl hP hz hS => lv_ddiv C.1 C.2.1 hd hne (k H locs ls hl hP hz hS)
theorem zr_dcmp (C : zk_C p s m meth c cc nL own nm ret D dA base sz) {x y : UInt64} {op : CmpOp} (hd : decode cc pc = .ok (.dcmp op, 1)) {n : Nat} (hn : pc + 1 = n)  (k : zk_V p l e R s m args below meth c nL D dA b base Q kc ks n ll (.int (Op.cmpValue (FP.dcmp x y) op) :: st) h) : zk_V p l e R s m args below meth c nL D dA b base Q kc ks pc ll (.double y :: .double x :: st) h := by
  subst hn
  exact fun H locs ls hl hP hz hS => lv_dcmp C.1 C.2.1 hd (k H locs ls hl hP hz hS)
theorem zr_dup (C : zk_C p s m meth c cc nL own nm ret D dA base sz) {va : Value} (hd : decode cc pc = .ok (.dup, 1)) {n : Nat} (hn : pc + 1 = n) (hva : va.category = 1) (k : zk_V p l e R s m args below meth c nL D dA b base Q kc ks n ll (va :: va :: st) h) : zk_V p l e R s m args below meth c nL D dA b base Q kc ks pc ll (va :: st) h := by
  subst hn
  exact fun H locs ls hl hP hz hS => lv_dup C.1 C.2.1 hd (by rw [zk_cat]; exact hva) (k H locs ls hl hP hz hS)
theorem zr_pop (C : zk_C p s m meth c cc nL own nm ret D dA base sz) {va : Value} (hd : decode cc pc = .ok (.pop, 1)) {n : Nat} (hn : pc + 1 = n) (hva : va.category = 1) (k : zk_V p l e R s m args below meth c nL D dA b base Q kc ks n ll st h) : zk_V p l e R s m args below meth c nL D dA b base Q kc ks pc ll (va :: st) h := by
  subst hn
  exact fun H locs ls hl hP hz hS => lv_pop C.1 C.2.1 hd (by rw [zk_cat]; exact hva) (k H locs ls hl hP hz hS)
theorem zr_dup_x1 (C : zk_C p s m meth c cc nL own nm ret D dA base sz) {va vb : Value} (hd : decode cc pc = .ok (.dup_x1, 1)) {n : Nat} (hn : pc + 1 = n) (hva : va.category = 1) (hvb : vb.category = 1) (k : zk_V p l e R s m args below meth c nL D dA b base Q kc ks n ll (va :: vb :: va :: st) h) : zk_V p l e R s m args below meth c nL D dA b base Q kc ks pc ll (va :: vb :: st) h := by
  subst hn
  exact fun H locs ls hl hP hz hS => lv_dup_x1 C.1 C.2.1 hd (by rw [zk_cat]; exact hva) (by rw [zk_cat]; exact hvb) (k H locs ls hl hP hz hS)
theorem zr_dup2 (C : zk_C p s m meth c cc nL own nm ret D dA base sz) {va vb : Value} (hd : decode cc pc = .ok (.dup2, 1)) {n : Nat} (hn : pc + 1 = n) (hva : va.category = 1) (hvb : vb.category = 1) (k : zk_V p l e R s m args below meth c nL D dA b base Q kc ks n ll (va :: vb :: va :: vb :: st) h) : zk_V p l e R s m args below meth c nL D dA b base Q kc ks pc ll (va :: vb :: st) h := by
  subst hn
  exact fun H locs ls hl hP hz hS => lv_dup2_11 C.1 C.2.1 hd (by rw [zk_cat]; exact hva) (by rw [zk_cat]; exact hvb) (k H locs ls hl hP hz hS)
theorem zr_icmp_eq (C : zk_C p s m meth c cc nL own nm ret D dA base sz) {x y : Int32} {off : Int} {t : Nat} (hd : decode cc pc = .ok (.if_icmp .eq off, 3)) {n : Nat} (hn : pc + 3 = n) (ht : (pc : Int) + off = (t : Int)) (kt : (x = y) → zk_V p l e R s m args below meth c nL D dA b base Q kc ks t ll st h) (kf : ¬ (x = y) → zk_V p l e R s m args below meth c nL D dA b base Q kc ks n ll st h) : zk_V p l e R s m args below meth c nL D dA b base Q kc ks pc ll (.int y :: .int x :: st) h := by
  subst hn
  exact fun H locs ls hl hP hz hS => lv_icmp_eq C.1 C.2.1 hd ht (fun hq => kt hq H locs ls hl hP hz hS) (fun hq => kf hq H locs ls hl hP hz hS)
theorem zr_icmp_ne (C : zk_C p s m meth c cc nL own nm ret D dA base sz) {x y : Int32} {off : Int} {t : Nat} (hd : decode cc pc = .ok (.if_icmp .ne off, 3)) {n : Nat} (hn : pc + 3 = n) (ht : (pc : Int) + off = (t : Int)) (kt : (¬ x = y) → zk_V p l e R s m args below meth c nL D dA b base Q kc ks t ll st h) (kf : (x = y) → zk_V p l e R s m args below meth c nL D dA b base Q kc ks n ll st h) : zk_V p l e R s m args below meth c nL D dA b base Q kc ks pc ll (.int y :: .int x :: st) h := by
  subst hn
  exact fun H locs ls hl hP hz hS => lv_icmp_ne C.1 C.2.1 hd ht (fun hq => kt hq H locs ls hl hP hz hS) (fun hq => kf hq H locs ls hl hP hz hS)
theorem zr_icmp_lt (C : zk_C p s m meth c cc nL own nm ret D dA base sz) {x y : Int32} {off : Int} {t : Nat} (hd : decode cc pc = .ok (.if_icmp .lt off, 3)) {n : Nat} (hn : pc + 3 = n) (ht : (pc : Int) + off = (t : Int)) (kt : (x < y) → zk_V p l e R s m args below meth c nL D dA b base Q kc ks t ll st h) (kf : ¬ (x < y) → zk_V p l e R s m args below meth c nL D dA b base Q kc ks n ll st h) : zk_V p l e R s m args below meth c nL D dA b base Q kc ks pc ll (.int y :: .int x :: st) h := by
  subst hn
  exact fun H locs ls hl hP hz hS => lv_icmp_lt C.1 C.2.1 hd ht (fun hq => kt hq H locs ls hl hP hz hS) (fun hq => kf hq H locs ls hl hP hz hS)
theorem zr_icmp_ge (C : zk_C p s m meth c cc nL own nm ret D dA base sz) {x y : Int32} {off : Int} {t : Nat} (hd : decode cc pc = .ok (.if_icmp .ge off, 3)) {n : Nat} (hn : pc + 3 = n) (ht : (pc : Int) + off = (t : Int)) (kt : (y ≤ x) → zk_V p l e R s m args below meth c nL D dA b base Q kc ks t ll st h) (kf : ¬ (y ≤ x) → zk_V p l e R s m args below meth c nL D dA b base Q kc ks n ll st h) : zk_V p l e R s m args below meth c nL D dA b base Q kc ks pc ll (.int y :: .int x :: st) h := by
  subst hn
  exact fun H locs ls hl hP hz hS => lv_icmp_ge C.1 C.2.1 hd ht (fun hq => kt hq H locs ls hl hP hz hS) (fun hq => kf hq H locs ls hl hP hz hS)
theorem zr_icmp_gt (C : zk_C p s m meth c cc nL own nm ret D dA base sz) {x y : Int32} {off : Int} {t : Nat} (hd : decode cc pc = .ok (.if_icmp .gt off, 3)) {n : Nat} (hn : pc + 3 = n) (ht : (pc : Int) + off = (t : Int)) (kt : (y < x) → zk_V p l e R s m args below meth c nL D dA b base Q kc ks t ll st h) (kf : ¬ (y < x) → zk_V p l e R s m args below meth c nL D dA b base Q kc ks n ll st h) : zk_V p l e R s m args below meth c nL D dA b base Q kc ks pc ll (.int y :: .int x :: st) h := by
  subst hn
  exact fun H locs ls hl hP hz hS => lv_icmp_gt C.1 C.2.1 hd ht (fun hq => kt hq H locs ls hl hP hz hS) (fun hq => kf hq H locs ls hl hP hz hS)
theorem zr_icmp_le (C : zk_C p s m meth c cc nL own nm ret D dA base sz) {x y : Int32} {off : Int} {t : Nat} (hd : decode cc pc = .ok (.if_icmp .le off, 3)) {n : Nat} (hn : pc + 3 = n) (ht : (pc : Int) + off = (t : Int)) (kt : (x ≤ y) → zk_V p l e R s m args below meth c nL D dA b base Q kc ks t ll st h) (kf : ¬ (x ≤ y) → zk_V p l e R s m args below meth c nL D dA b base Q kc ks n ll st h) : zk_V p l e R s m args below meth c nL D dA b base Q kc ks pc ll (.int y :: .int x :: st) h := by
  subst hn
  exact fun H locs ls hl hP hz hS => lv_icmp_le C.1 C.2.1 hd ht (fun hq => kt hq H locs ls hl hP hz hS) (fun hq => kf hq H locs ls hl hP hz hS)
theorem zr_if_eq (C : zk_C p s m meth c cc nL own nm ret D dA base sz) {x : Int32} {off : Int} {t : Nat} (hd : decode cc pc = .ok (.ifCond .eq off, 3)) {n : Nat} (hn : pc + 3 = n) (ht : (pc : Int) + off = (t : Int)) (kt : (x = 0) → zk_V p l e R s m args below meth c nL D dA b base Q kc ks t ll st h) (kf : ¬ (x = 0) → zk_V p l e R s m args below meth c nL D dA b base Q kc ks n ll st h) : zk_V p l e R s m args below meth c nL D dA b base Q kc ks pc ll (.int x :: st) h := by
  subst hn
  exact fun H locs ls hl hP hz hS => lv_if_eq C.1 C.2.1 hd ht (fun hq => kt hq H locs ls hl hP hz hS) (fun hq => kf hq H locs ls hl hP hz hS)
theorem zr_if_ne (C : zk_C p s m meth c cc nL own nm ret D dA base sz) {x : Int32} {off : Int} {t : Nat} (hd : decode cc pc = .ok (.ifCond .ne off, 3)) {n : Nat} (hn : pc + 3 = n) (ht : (pc : Int) + off = (t : Int)) (kt : (¬ x = 0) → zk_V p l e R s m args below meth c nL D dA b base Q kc ks t ll st h) (kf : (x = 0) → zk_V p l e R s m args below meth c nL D dA b base Q kc ks n ll st h) : zk_V p l e R s m args below meth c nL D dA b base Q kc ks pc ll (.int x :: st) h := by
  subst hn
  exact fun H locs ls hl hP hz hS => lv_if_ne C.1 C.2.1 hd ht (fun hq => kt hq H locs ls hl hP hz hS) (fun hq => kf hq H locs ls hl hP hz hS)
theorem zr_if_lt (C : zk_C p s m meth c cc nL own nm ret D dA base sz) {x : Int32} {off : Int} {t : Nat} (hd : decode cc pc = .ok (.ifCond .lt off, 3)) {n : Nat} (hn : pc + 3 = n) (ht : (pc : Int) + off = (t : Int)) (kt : (x < 0) → zk_V p l e R s m args below meth c nL D dA b base Q kc ks t ll st h) (kf : ¬ (x < 0) → zk_V p l e R s m args below meth c nL D dA b base Q kc ks n ll st h) : zk_V p l e R s m args below meth c nL D dA b base Q kc ks pc ll (.int x :: st) h := by
  subst hn
  exact fun H locs ls hl hP hz hS => lv_if_lt C.1 C.2.1 hd ht (fun hq => kt hq H locs ls hl hP hz hS) (fun hq => kf hq H locs ls hl hP hz hS)
theorem zr_if_ge (C : zk_C p s m meth c cc nL own nm ret D dA base sz) {x : Int32} {off : Int} {t : Nat} (hd : decode cc pc = .ok (.ifCond .ge off, 3)) {n : Nat} (hn : pc + 3 = n) (ht : (pc : Int) + off = (t : Int)) (kt : (0 ≤ x) → zk_V p l e R s m args below meth c nL D dA b base Q kc ks t ll st h) (kf : ¬ (0 ≤ x) → zk_V p l e R s m args below meth c nL D dA b base Q kc ks n ll st h) : zk_V p l e R s m args below meth c nL D dA b base Q kc ks pc ll (.int x :: st) h := by
  subst hn
  exact fun H locs ls hl hP hz hS => lv_if_ge C.1 C.2.1 hd ht (fun hq => kt hq H locs ls hl hP hz hS) (fun hq => kf hq H locs ls hl hP hz hS)
theorem zr_if_gt (C : zk_C p s m meth c cc nL own nm ret D dA base sz) {x : Int32} {off : Int} {t : Nat} (hd : decode cc pc = .ok (.ifCond .gt off, 3)) {n : Nat} (hn : pc + 3 = n) (ht : (pc : Int) + off = (t : Int)) (kt : (0 < x) → zk_V p l e R s m args below meth c nL D dA b base Q kc ks t ll st h) (kf : ¬ (0 < x) → zk_V p l e R s m args below meth c nL D dA b base Q kc ks n ll st h) : zk_V p l e R s m args below meth c nL D dA b base Q kc ks pc ll (.int x :: st) h := by
  subst hn
  exact fun H locs ls hl hP hz hS => lv_if_gt C.1 C.2.1 hd ht (fun hq => kt hq H locs ls hl hP hz hS) (fun hq => kf hq H locs ls hl hP hz hS)
theorem zr_if_le (C : zk_C p s m meth c cc nL own nm ret D dA base sz) {x : Int32} {off : Int} {t : Nat} (hd : decode cc pc = .ok (.ifCond .le off, 3)) {n : Nat} (hn : pc + 3 = n) (ht : (pc : Int) + off = (t : Int)) (kt : (x ≤ 0) → zk_V p l e R s m args below meth c nL D dA b base Q kc ks t ll st h) (kf : ¬ (x ≤ 0) → zk_V p l e R s m args below meth c nL D dA b base Q kc ks n ll st h) : zk_V p l e R s m args below meth c nL D dA b base Q kc ks pc ll (.int x :: st) h := by
  subst hn
  exact fun H locs ls hl hP hz hS => lv_if_le C.1 C.2.1 hd ht (fun hq => kt hq H locs ls hl hP hz hS) (fun hq => kf hq H locs ls hl hP hz hS)
theorem zr_goto (C : zk_C p s m meth c cc nL own nm ret D dA base sz) {off : Int} {t : Nat} (hd : decode cc pc = .ok (.goto off, 3)) (ht : (pc : Int) + off = (t : Int)) (k : zk_V p l e R s m args below meth c nL D dA b base Q kc ks t ll st h) : zk_V p l e R s m args below meth c nL D dA b base Q kc ks pc ll st h := fun H locs ls hl hP hz hS => lv_goto C.1 C.2.1 hd ht (k H locs ls hl hP hz hS)
theorem zr_tableIn (C : zk_C p s m meth c cc nL own nm ret D dA base sz) {dflt lo hi : Int} {offs : Array Int} {len : Nat} {x : Int32} {off : Int} {t : Nat} (hd : decode cc pc = .ok (.tableswitch dflt lo hi offs, len)) (h1 : ¬ x.toInt < lo) (h2 : ¬ hi < x.toInt) (ho : offs[(x.toInt - lo).toNat]? = some off) (ht : (pc : Int) + off = (t : Int)) (k : zk_V p l e R s m args below meth c nL D dA b base Q kc ks t ll st h) : zk_V p l e R s m args below meth c nL D dA b base Q kc ks pc ll (.int x :: st) h := fun H locs ls hl hP hz hS => lv_tableIn C.1 C.2.1 hd h1 h2 ho ht (k H locs ls hl hP hz hS)
theorem zr_tableOut (C : zk_C p s m meth c cc nL own nm ret D dA base sz) {dflt lo hi : Int} {offs : Array Int} {len : Nat} {x : Int32} {t : Nat} (hd : decode cc pc = .ok (.tableswitch dflt lo hi offs, len)) (h1 : x.toInt < lo ∨ hi < x.toInt) (ht : (pc : Int) + dflt = (t : Int)) (k : zk_V p l e R s m args below meth c nL D dA b base Q kc ks t ll st h) : zk_V p l e R s m args below meth c nL D dA b base Q kc ks pc ll (.int x :: st) h := fun H locs ls hl hP hz hS => lv_tableOut C.1 C.2.1 hd h1 ht (k H locs ls hl hP hz hS)
theorem zr_topi {x : Int32} (k : ∀ y : Int32, y = x → zk_V p l e R s m args below meth c nL D dA b base Q kc ks pc ll (.int y :: st) h) : zk_V p l e R s m args below meth c nL D dA b base Q kc ks pc ll (.int x :: st) h := k x rfl
theorem zr_drop (i : Nat) (k : zk_V p l e R s m args below meth c nL D dA b base Q kc ks pc (ll.set i none) st h) : zk_V p l e R s m args below meth c nL D dA b base Q kc ks pc ll st h := fun H locs ls hl hP hz hS => k H locs ls (zk_l_drop i hl) hP hz hS
theorem zr_ldc2d (C : zk_C p s m meth c cc nL own nm ret D dA base sz) {idx : Nat} {v : UInt64} (hd : decode cc pc = .ok (.ldc2_w idx, 3)) {n : Nat} (hn : pc + 3 = n) (hw : Cond.constantDouble own idx v ∈ zk_tb) (k : zk_V p l e R s m args below meth c nL D dA b base Q kc ks n ll (.double v :: st) h) : zk_V p l e R s m args below meth c nL D dA b base Q kc ks pc ll st h := by
  subst hn
  exact fun H locs ls hl hP hz hS => lv_ldc2d C.1 C.2.1 C.2.2.2.1 (zk_T_at C.2.2.2.2.1 _ hw) hd (k H locs ls hl hP hz hS)
theorem zr_ldc (C : zk_C p s m meth c cc nL own nm ret D dA base sz) {idx : Nat} {v : Int32} (hd : decode cc pc = .ok (.ldc idx, 2)) {n : Nat} (hn : pc + 2 = n) (hw : Cond.constant own idx v ∈ zk_tb) (k : zk_V p l e R s m args below meth c nL D dA b base Q kc ks n ll (.int v :: st) h) : zk_V p l e R s m args below meth c nL D dA b base Q kc ks pc ll st h := by
  subst hn
  exact fun H locs ls hl hP hz hS => lv_ldc C.1 C.2.1 C.2.2.2.1 (zk_T_at C.2.2.2.2.1 _ hw) hd (k H locs ls hl hP hz hS)
theorem zr_toe {x y : Int32} (hxy : x = y) (k : zk_V p l e R s m args below meth c nL D dA b base Q kc ks pc ll (.int y :: st) h) : zk_V p l e R s m args below meth c nL D dA b base Q kc ks pc ll (.int x :: st) h := hxy ▸ k
theorem zr_istore_n (C : zk_C p s m meth c cc nL own nm ret D dA base sz) {k0 : Fin 4} {x : Int32} (hd : decode cc pc = .ok (.istore_n k0, 1)) {n : Nat} (hn : pc + 1 = n) (hi : (k0 : Nat) < nL) (hok : zk_ok ll (k0 : Nat) = true) (k : zk_V p l e R s m args below meth c nL D dA b base Q kc ks n (ll.set (k0 : Nat) (some (.int x))) st h) : zk_V p l e R s m args below meth c nL D dA b base Q kc ks pc ll (.int x :: st) h := by
  subst hn
  exact fun H locs ls hl hP hz hS => lv_istore_n C.1 C.2.1 hd rfl (zk_l_has hl) hi rfl (fun ls' hl' => k H locs ls' (zk_l_st1 (v := .int x) hok hl') hP hz hS)
theorem zr_istore (C : zk_C p s m meth c cc nL own nm ret D dA base sz) {k0 : Nat} {x : Int32} (hd : decode cc pc = .ok (.istore k0, 2)) {n : Nat} (hn : pc + 2 = n) (hi : k0 < nL) (hok : zk_ok ll k0 = true) (k : zk_V p l e R s m args below meth c nL D dA b base Q kc ks n (ll.set k0 (some (.int x))) st h) : zk_V p l e R s m args below meth c nL D dA b base Q kc ks pc ll (.int x :: st) h := by
  subst hn
  exact fun H locs ls hl hP hz hS => lv_istore C.1 C.2.1 hd (zk_l_has hl) hi rfl (fun ls' hl' => k H locs ls' (zk_l_st1 (v := .int x) hok hl') hP hz hS)
theorem zr_astore_n (C : zk_C p s m meth c cc nL own nm ret D dA base sz) {k0 : Fin 4} {x : Nat} (hd : decode cc pc = .ok (.astore_n k0, 1)) {n : Nat} (hn : pc + 1 = n) (hi : (k0 : Nat) < nL) (hok : zk_ok ll (k0 : Nat) = true) (k : zk_V p l e R s m args below meth c nL D dA b base Q kc ks n (ll.set (k0 : Nat) (some (.ref x))) st h) : zk_V p l e R s m args below meth c nL D dA b base Q kc ks pc ll (.ref x :: st) h := by
  subst hn
  exact fun H locs ls hl hP hz hS => lv_astore_n C.1 C.2.1 hd rfl (zk_l_has hl) hi rfl (fun ls' hl' => k H locs ls' (zk_l_st1 (v := .ref x) hok hl') hP hz hS)
theorem zr_astore (C : zk_C p s m meth c cc nL own nm ret D dA base sz) {k0 : Nat} {x : Nat} (hd : decode cc pc = .ok (.astore k0, 2)) {n : Nat} (hn : pc + 2 = n) (hi : k0 < nL) (hok : zk_ok ll k0 = true) (k : zk_V p l e R s m args below meth c nL D dA b base Q kc ks n (ll.set k0 (some (.ref x))) st h) : zk_V p l e R s m args below meth c nL D dA b base Q kc ks pc ll (.ref x :: st) h := by
  subst hn
  exact fun H locs ls hl hP hz hS => lv_astore C.1 C.2.1 hd (zk_l_has hl) hi rfl (fun ls' hl' => k H locs ls' (zk_l_st1 (v := .ref x) hok hl') hP hz hS)
theorem zr_dstore_n (C : zk_C p s m meth c cc nL own nm ret D dA base sz) {k0 : Fin 4} {x : UInt64} (hd : decode cc pc = .ok (.dstore_n k0, 1)) {n : Nat} (hn : pc + 1 = n) (hi : (k0 : Nat) + 1 < nL) (hok : zk_ok ll (k0 : Nat) = true) (k : zk_V p l e R s m args below meth c nL D dA b base Q kc ks n ((ll.set (k0 : Nat) (some (.double x))).set ((k0 : Nat) + 1) none) st h) : zk_V p l e R s m args below meth c nL D dA b base Q kc ks pc ll (.double x :: st) h := by
  subst hn
  exact fun H locs ls hl hP hz hS => lv_dstore_n C.1 C.2.1 hd rfl (zk_l_has hl) hi rfl (fun ls' hl' => k H locs ls' (zk_l_st2 (v := .double x) hok hl') hP hz hS)
theorem zr_dstore (C : zk_C p s m meth c cc nL own nm ret D dA base sz) {k0 : Nat} {x : UInt64} (hd : decode cc pc = .ok (.dstore k0, 2)) {n : Nat} (hn : pc + 2 = n) (hi : k0 + 1 < nL) (hok : zk_ok ll k0 = true) (k : zk_V p l e R s m args below meth c nL D dA b base Q kc ks n ((ll.set k0 (some (.double x))).set (k0 + 1) none) st h) : zk_V p l e R s m args below meth c nL D dA b base Q kc ks pc ll (.double x :: st) h := by
  subst hn
  exact fun H locs ls hl hP hz hS => lv_dstore C.1 C.2.1 hd (zk_l_has hl) hi rfl (fun ls' hl' => k H locs ls' (zk_l_st2 (v := .double x) hok hl') hP hz hS)
theorem zr_iinc (C : zk_C p s m meth c cc nL own nm ret D dA base sz) {k0 : Nat} {i : Int} {x w v : Int32} (hd : decode cc pc = .ok (.iinc k0 i, 3)) {n : Nat} (hn : pc + 3 = n) (hx : ll[k0]? = some (some (.int x))) (hw : Int32.ofInt i = w) (hv : x + w = v) (hi : k0 < nL) (hok : zk_ok ll k0 = true) (k : zk_V p l e R s m args below meth c nL D dA b base Q kc ks n (ll.set k0 (some (.int v))) st h) : zk_V p l e R s m args below meth c nL D dA b base Q kc ks pc ll st h := by
  subst hn
  intro H locs ls hl hP hz hS
  obtain ⟨j, hj⟩ := List.getElem?_of_mem (zk_ll_mem (b := b) (base := base) (q := (k0, .int x)).mpr ⟨.int x, hx, rfl⟩)
  exact lv_iinc (v := v) C.1 C.2.1 hd (zk_l_has hl) hj (by rw [hw]; exact hv) hi rfl (fun ls' hl' => k H locs ls' (zk_l_st1 (v := .int v) hok hl') hP hz hS)
def zk_F (own : String) (idx ci k : Nat) (Cn : String) (T : u_T) (N : Nat) : Prop := vwCl[ci]? = some (Cn, T, N) ∧ k < N ∧ Cond.fieldLink own idx Cn (T k).2.1 (T k).2.2.1 ∈ zk_tb ∧ (∀ w ∈ u_ws Cn T N, w ∈ zk_tb) ∧ (T k).1 = Cn
def zk_FN (own : String) (idx ci k : Nat) (Cn : String) (T : u_T) (N : Nat) (host : String) : Prop := vwCl[ci]? = some (Cn, T, N) ∧ k < N ∧ Cond.fieldLinkNest own idx Cn (T k).2.1 (T k).2.2.1 host ∈ zk_tb ∧ (∀ w ∈ u_ws Cn T N, w ∈ zk_tb) ∧ (T k).1 = Cn
def zk_Y (T : u_T) (N : Nat) (ty : Nat → FieldType) : Prop := (∀ k, k < N → parseFieldDescriptor (T k).2.2.1 = some (ty k)) ∧ (∀ a, a < N → ∀ b, b < N → a ≠ b → (T a).2.1 ≠ (T b).2.1)
theorem zk_map_get {b base : Nat} {fs : List Value} {k : Nat} {v : Value} (hv : fs[k]? = some v) : (fs.map (zk_v b base))[k]? = some (zk_v b base v) := by rw [List.getElem?_map, hv]; rfl
theorem zr_get (C : zk_C p s m meth c cc nL own nm ret D dA base sz) {idx ci k N : Nat} {Cn : String} {T : u_T} (F : zk_F own idx ci k Cn T N) (hd : decode cc pc = .ok (.getfield idx, 3)) {n : Nat} (hn : pc + 3 = n) {i : Nat} {fs : List Value} {v : Value} (hh : h[i]? = some (.inr (ci, fs))) (hv : fs[k]? = some v) (kk : zk_V p l e R s m args below meth c nL D dA b base Q kc ks n ll (v :: st) h) : zk_V p l e R s m args below meth c nL D dA b base Q kc ks pc ll (.ref (i + 1) :: st) h := by
  subst hn
  obtain ⟨f1, f2, f3, f4, f5⟩ := F
  obtain ⟨hx, hb, hml, hown, hK, hbs, hlk, hret, hnm⟩ := C
  exact fun H locs ls hl hP hz hS => va_get hx hb (zk_T_at hK) f4 hown hK.1 hP i (zk_w_get hh) f1 k f2 (zk_T_at hK _ f3) (fun x hx => by rw [f5] at hx; exact hx) (zk_map_get hv) hd (kk H locs ls hl hP hz hS)
theorem zr_getN (C : zk_C p s m meth c cc nL own nm ret D dA base sz) {idx ci k N : Nat} {Cn : String} {T : u_T} {host : String} (F : zk_FN own idx ci k Cn T N host) (hd : decode cc pc = .ok (.getfield idx, 3)) {n : Nat} (hn : pc + 3 = n) {i : Nat} {fs : List Value} {v : Value} (hh : h[i]? = some (.inr (ci, fs))) (hv : fs[k]? = some v) (kk : zk_V p l e R s m args below meth c nL D dA b base Q kc ks n ll (v :: st) h) : zk_V p l e R s m args below meth c nL D dA b base Q kc ks pc ll (.ref (i + 1) :: st) h := by
  subst hn
  obtain ⟨f1, f2, f3, f4, f5⟩ := F
  obtain ⟨hx, hb, hml, hown, hK, hbs, hlk, hret, hnm⟩ := C
  exact fun H locs ls hl hP hz hS => va_getN hx hb (zk_T_at hK) f4 hown hK.1 hP i (zk_w_get hh) f1 k f2 (zk_T_at hK _ f3) (fun x hx => by rw [f5] at hx; exact hx) (zk_map_get hv) hd (kk H locs ls hl hP hz hS)
theorem zk_stored {D : va_G} {dA : Nat → ClassId} {b base : Nat} {h : zk_H} {s : State} {H H1 : Heap} {locs : List Loc} {i k : Nat} {x0 x : zk_E} (hP : va_P D vwCl (zk_w dA b base h) H) (hz : H.size = base + h.length) (hS : va_S (fun q : Nat => base ≤ q) s.heap H locs) (hh : h[i]? = some x0) (he : va_at D vwCl (base + i, zk_e dA b base x) H1) (z : H1.size = H.size) (oq : ∀ q : Nat, q ≠ base + i → H1[q]? = H[q]?) : va_P D vwCl (zk_w dA b base (h.set i x)) H1 ∧ H1.size = base + (h.set i x).length ∧ va_S (fun q : Nat => base ≤ q) s.heap H1 (locs ++ [⟨base + i, k⟩]) := by
  refine ⟨?_, by rw [z, hz, List.length_set], hS.put z oq (Nat.le_add_right _ _)⟩
  rw [← zk_w_set]
  exact hP.set (zk_w_D dA b base h) (zk_w_get hh) he oq
theorem zr_put (C : zk_C p s m meth c cc nL own nm ret D dA base sz) {idx ci k N : Nat} {Cn : String} {T : u_T} {ty0 : Nat → FieldType} {ty : FieldType} (F : zk_F own idx ci k Cn T N) (Y : zk_Y T N ty0) (hfin : (T k).2.2.2 = false) (hty : ty0 k = ty) (hd : decode cc pc = .ok (.putfield idx, 3)) {n : Nat} (hn : pc + 3 = n) {i : Nat} {fs : List Value} {v : Value} (hh : h[i]? = some (.inr (ci, fs))) (hl0 : k < fs.length) (hnar : ∀ b base, narrow ty (zk_v b base v) = zk_v b base v) (hfit : ∀ b base, fits ty (zk_v b base v) = true) (kk : zk_V p l e R s m args below meth c nL D dA b base Q kc ks n ll st (h.set i (.inr (ci, fs.set k v)))) : zk_V p l e R s m args below meth c nL D dA b base Q kc ks pc ll (v :: .ref (i + 1) :: st) h := by
  subst hn
  obtain ⟨f1, f2, f3, f4, f5⟩ := F
  obtain ⟨hx, hb, hml, hown, hK, hbs, hlk, hret, hnm⟩ := C
  intro H locs ls hl hP hz hS
  have hts := zk_T_at (args := args) hK
  have hap := va_apart (own := own) hts f4 ty0 Y.1 Y.2 hK.1 f1
  obtain ⟨r, h1, cell, q1, q2, q3, q4⟩ := hP i _ (zk_w_get hh)
  have hr : r = (Cn, T, N) := Option.some.inj (h1.symm.trans f1)
  subst hr
  obtain ⟨hSl, hfc, kC, hkC, hkind⟩ := hK.1.1 ci _ f1
  obtain ⟨cf, kf, fi, f, hi, hsl⟩ := hSl k f2
  have hlay := hts _ (f4 _ (u_in_lay f2))
  unfold u_lay at hlay
  rw [if_neg (by rw [hfin]; decide)] at hlay
  have hst := (u_facts hfc hkC (u_lays hts f4 f2) hi).1
  have h6 := u_store hfc hkC hkind hlay hi (hty ▸ Y.1 k f2) (hnar b base) (hfit b base)
  have hi' : s.fieldFound? Cn (T k).2.1 (T k).2.2.1 = some (cf, kf, fi, f) := by rw [← f5]; exact hi
  refine W.putK hx hb (f := f) ⟨hown, hts _ f3, ⟨_, _, _, hi'⟩, hst⟩ (by rw [q2]; exact h6) q1 q3 (by rw [hsl]; exact k2_hasslot (q4 k f2)) rfl rfl hd fun H' e1 e2 e3 => ?_
  rw [hsl] at e1 ⊢
  obtain ⟨g1, g2, g3⟩ := zk_stored (k := D.2 ci k) hP hz hS hh (x := .inr (ci, fs.set k v)) ⟨_, f1, t_OB.to (V := updV (vp_V (fs.map (zk_v b base))) k (zk_v b base v)) ⟨_, e1, q2, q3, t_set q4 hap f2 _⟩ (fun j _ => by rw [List.map_set]; exact vp_updV_set (by rw [List.length_map]; exact hl0) _ j)⟩ e2 e3
  exact kk H' _ ls hl g1 g2 g3
theorem zr_putN (C : zk_C p s m meth c cc nL own nm ret D dA base sz) {idx ci k N : Nat} {Cn : String} {T : u_T} {host : String} {ty0 : Nat → FieldType} {ty : FieldType} (F : zk_FN own idx ci k Cn T N host) (Y : zk_Y T N ty0) (hfin : (T k).2.2.2 = false) (hty : ty0 k = ty) (hd : decode cc pc = .ok (.putfield idx, 3)) {n : Nat} (hn : pc + 3 = n) {i : Nat} {fs : List Value} {v : Value} (hh : h[i]? = some (.inr (ci, fs))) (hl0 : k < fs.length) (hnar : ∀ b base, narrow ty (zk_v b base v) = zk_v b base v) (hfit : ∀ b base, fits ty (zk_v b base v) = true) (kk : zk_V p l e R s m args below meth c nL D dA b base Q kc ks n ll st (h.set i (.inr (ci, fs.set k v)))) : zk_V p l e R s m args below meth c nL D dA b base Q kc ks pc ll (v :: .ref (i + 1) :: st) h := by
  subst hn
  obtain ⟨f1, f2, f3, f4, f5⟩ := F
  obtain ⟨hx, hb, hml, hown, hK, hbs, hlk, hret, hnm⟩ := C
  intro H locs ls hl hP hz hS
  have hts := zk_T_at (args := args) hK
  have hap := va_apart (own := own) hts f4 ty0 Y.1 Y.2 hK.1 f1
  obtain ⟨r, h1, cell, q1, q2, q3, q4⟩ := hP i _ (zk_w_get hh)
  have hr : r = (Cn, T, N) := Option.some.inj (h1.symm.trans f1)
  subst hr
  obtain ⟨hSl, hfc, kC, hkC, hkind⟩ := hK.1.1 ci _ f1
  obtain ⟨cf, kf, fi, f, hi, hsl⟩ := hSl k f2
  have hlay := hts _ (f4 _ (u_in_lay f2))
  unfold u_lay at hlay
  rw [if_neg (by rw [hfin]; decide)] at hlay
  have hst := (u_facts hfc hkC (u_lays hts f4 f2) hi).1
  have h6 := u_store hfc hkC hkind hlay hi (hty ▸ Y.1 k f2) (hnar b base) (hfit b base)
  have hi' : s.fieldFound? Cn (T k).2.1 (T k).2.2.1 = some (cf, kf, fi, f) := by rw [← f5]; exact hi
  refine va_WputK hx hb (f := f) hown (hts _ f3) hi' hst (by rw [q2]; exact h6) q1 q3 (by rw [hsl]; exact k2_hasslot (q4 k f2)) rfl rfl hd fun H' e1 e2 e3 => ?_
  rw [hsl] at e1 ⊢
  obtain ⟨g1, g2, g3⟩ := zk_stored (k := D.2 ci k) hP hz hS hh (x := .inr (ci, fs.set k v)) ⟨_, f1, t_OB.to (V := updV (vp_V (fs.map (zk_v b base))) k (zk_v b base v)) ⟨_, e1, q2, q3, t_set q4 hap f2 _⟩ (fun j _ => by rw [List.map_set]; exact vp_updV_set (by rw [List.length_map]; exact hl0) _ j)⟩ e2 e3
  exact kk H' _ ls hl g1 g2 g3
theorem zr_putF (C : zk_C p s m meth c cc nL own nm ret D dA base sz) {idx ci k N : Nat} {Cn : String} {T : u_T} {ty0 : Nat → FieldType} {ty : FieldType} (F : zk_F own idx ci k Cn T N) (Y : zk_Y T N ty0) (hfin : (T k).2.2.2 = true) (hin : nm = "<init>") (hdc : Cn = own) (hty : ty0 k = ty) (hd : decode cc pc = .ok (.putfield idx, 3)) {n : Nat} (hn : pc + 3 = n) {i : Nat} {fs : List Value} {v : Value} (hh : h[i]? = some (.inr (ci, fs))) (hl0 : k < fs.length) (hnar : ∀ b base, narrow ty (zk_v b base v) = zk_v b base v) (hfit : ∀ b base, fits ty (zk_v b base v) = true) (kk : zk_V p l e R s m args below meth c nL D dA b base Q kc ks n ll st (h.set i (.inr (ci, fs.set k v)))) : zk_V p l e R s m args below meth c nL D dA b base Q kc ks pc ll (v :: .ref (i + 1) :: st) h := by
  subst hn
  obtain ⟨f1, f2, f3, f4, f5⟩ := F
  obtain ⟨hx, hb, hml, hown, hK, hbs, hlk, hret, hnm⟩ := C
  intro H locs ls hl hP hz hS
  have hts := zk_T_at (args := args) hK
  have hap := va_apart (own := own) hts f4 ty0 Y.1 Y.2 hK.1 f1
  obtain ⟨r, h1, cell, q1, q2, q3, q4⟩ := hP i _ (zk_w_get hh)
  have hr : r = (Cn, T, N) := Option.some.inj (h1.symm.trans f1)
  subst hr
  obtain ⟨hSl, hfc, kC, hkC, hkind⟩ := hK.1.1 ci _ f1
  obtain ⟨cf, kf, fi, f, hi, hsl⟩ := hSl k f2
  have hlay := hts _ (f4 _ (u_in_lay f2))
  unfold u_lay at hlay
  rw [if_pos hfin] at hlay
  have hst := (u_facts hfc hkC (u_lays hts f4 f2) hi).1
  have hcf : m.cls = cf := by
    obtain ⟨_, _, c', _, _, _, -, -, hf', -, -, -, hown2, -⟩ := Cond.laysFinal_spec hlay
    have e1 : c' = cf := by have := hi.symm.trans hf'; simp at this; exact this.1.symm
    rw [f5, hdc] at hown2
    rw [← e1]; exact Option.some.inj (hown.symm.trans hown2)
  have h6 := u_fits hfc hkC hkind (Or.inr hlay) hi (hty ▸ Y.1 k f2) (hnar b base) (hfit b base)
  have hi' : s.fieldFound? Cn (T k).2.1 (T k).2.2.1 = some (cf, kf, fi, f) := by rw [← f5]; exact hi
  refine W.putFinK hx hb hown (hts _ f3) hi' hst hcf (hnm.trans hin) (by rw [q2]; exact h6) q1 q3 (by rw [hsl]; exact k2_hasslot (q4 k f2)) rfl rfl hd fun H' e1 e2 e3 => ?_
  rw [hsl] at e1 ⊢
  obtain ⟨g1, g2, g3⟩ := zk_stored (k := D.2 ci k) hP hz hS hh (x := .inr (ci, fs.set k v)) ⟨_, f1, t_OB.to (V := updV (vp_V (fs.map (zk_v b base))) k (zk_v b base v)) ⟨_, e1, q2, q3, t_set q4 hap f2 _⟩ (fun j _ => by rw [List.map_set]; exact vp_updV_set (by rw [List.length_map]; exact hl0) _ j)⟩ e2 e3
  exact kk H' _ ls hl g1 g2 g3
theorem zr_iald (C : zk_C p s m meth c cc nL own nm ret D dA base sz) (hd : decode cc pc = .ok (.iaload, 1)) {n : Nat} (hn : pc + 1 = n) {i len : Nat} {f : Nat → Int32} {x : Int32} (hh : h[i]? = some (.inl (0, len, .inl f))) (hin : vp_in x len) (k : zk_V p l e R s m args below meth c nL D dA b base Q kc ks n ll (.int (f x.toNatClampNeg) :: st) h) : zk_V p l e R s m args below meth c nL D dA b base Q kc ks pc ll (.int x :: .ref (i + 1) :: st) h := by
  subst hn
  exact fun H locs ls hl hP hz hS => va_iald C.1 C.2.1 C.2.2.2.2.1.1 hP i 0 (zk_w_get hh) rfl hin hd (k H locs ls hl hP hz hS)
theorem zr_aald (C : zk_C p s m meth c cc nL own nm ret D dA base sz) (hd : decode cc pc = .ok (.aaload, 1)) {n : Nat} (hn : pc + 1 = n) {i len t : Nat} {E : String} {f : Nat → Option Nat} {x : Int32} {y : Nat} (ht : (zk_tys dA)[t]? = some (dA t, .object E)) (hh : h[i]? = some (.inl (t, len, .inr (.inr (.inr (.inr f)))))) (hin : vp_in x len) (hy : f x.toNatClampNeg = some y) (k : zk_V p l e R s m args below meth c nL D dA b base Q kc ks n ll (.ref y :: st) h) : zk_V p l e R s m args below meth c nL D dA b base Q kc ks pc ll (.int x :: .ref (i + 1) :: st) h := by
  subst hn
  intro H locs ls hl hP hz hS
  refine va_aldq C.1 C.2.1 C.2.2.2.2.1.1 hP i t (zk_w_get hh) ht hin hd ?_
  rw [hy]
  exact k H locs ls hl hP hz hS
theorem zr_alen (C : zk_C p s m meth c cc nL own nm ret D dA base sz) (hd : decode cc pc = .ok (.arraylength, 1)) {n : Nat} (hn : pc + 1 = n) {i len : Nat} {f : Nat → Int32} {v : Int32} (hh : h[i]? = some (.inl (0, len, .inl f))) (hv : Int32.ofNat len = v) (k : zk_V p l e R s m args below meth c nL D dA b base Q kc ks n ll (.int v :: st) h) : zk_V p l e R s m args below meth c nL D dA b base Q kc ks pc ll (.ref (i + 1) :: st) h := by
  subst hn
  exact fun H locs ls hl hP hz hS => va_alen C.1 C.2.1 C.2.2.2.2.1.1 hP i 0 (zk_w_get hh) (ty := .int) rfl hv hd (k H locs ls hl hP hz hS)
theorem zr_iast (C : zk_C p s m meth c cc nL own nm ret D dA base sz) (hd : decode cc pc = .ok (.iastore, 1)) {n : Nat} (hn : pc + 1 = n) {i len : Nat} {f : Nat → Int32} {x y : Int32} (hh : h[i]? = some (.inl (0, len, .inl f))) (hin : vp_in x len) (k : zk_V p l e R s m args below meth c nL D dA b base Q kc ks n ll st (h.set i (.inl (0, len, .inl (upd f x.toNatClampNeg y))))) : zk_V p l e R s m args below meth c nL D dA b base Q kc ks pc ll (.int y :: .int x :: .ref (i + 1) :: st) h := by
  subst hn
  intro H locs ls hl hP hz hS
  refine W.iast C.1 C.2.1 (hP i _ (zk_w_get hh)) ((C.2.2.2.2.1.1.2 0 _ rfl).1 len (fun j => .int (f j))) (fun q => by cases q) (by show ¬ (x < 0 ∨ (arrV _ _ _).slots.size ≤ _); rw [arrV_size]; exact hin) rfl rfl hd fun H1 e1 z oq => ?_
  have e2 : H1[base + i]? = some ((arrV (dA 0) len (fun j => .int (f j))).setSlot x.toNatClampNeg (.int y)) := e1
  rw [arrV_store] at e2
  obtain ⟨g1, g2, g3⟩ := zk_stored (k := x.toNatClampNeg) hP hz hS hh (x := .inl (0, len, .inl (upd f x.toNatClampNeg y))) (by
    show H1[base + i]? = some (arrV (dA 0) len (fun j => .int (upd f x.toNatClampNeg y j)))
    rw [e2]
    congr 2
    funext q
    by_cases hq : q = x.toNatClampNeg
    · subst hq
      simp [updV, upd]
    · simp [updV, upd, hq]) z oq
  exact k H1 _ ls hl g1 g2 g3
theorem zr_aast (C : zk_C p s m meth c cc nL own nm ret D dA base sz) (hd : decode cc pc = .ok (.aastore, 1)) {n : Nat} (hn : pc + 1 = n) {i len t ci j : Nat} {E : vw_C} {vs : List Value} {f : Nat → Option Nat} {x : Int32} (ht : (zk_tys dA)[t]? = some (dA t, .object E.1)) (hc : vwCl[ci]? = some E) (hh : h[i]? = some (.inl (t, len, .inr (.inr (.inr (.inr f)))))) (hj : h[j]? = some (.inr (ci, vs))) (hin : vp_in x len) (k : zk_V p l e R s m args below meth c nL D dA b base Q kc ks n ll st (h.set i (.inl (t, len, .inr (.inr (.inr (.inr (va_up f x.toNatClampNeg (some (j + 1)))))))))) : zk_V p l e R s m args below meth c nL D dA b base Q kc ks pc ll (.ref (j + 1) :: .int x :: .ref (i + 1) :: st) h := by
  subst hn
  intro H locs ls hl hP hz hS
  have hK := C.2.2.2.2.1.1
  have hlt : x.toNatClampNeg < len := Nat.not_le.mp fun q => hin (Or.inr q)
  have h0 : ¬ x < 0 := fun q => hin (Or.inl q)
  obtain ⟨r', hr', cellV, g1, g2, g3, -⟩ := hP j _ (zk_w_get hj)
  have hcls := (hK.1 ci E hc).2
  obtain ⟨kA, comp, k1, k2, k3, -⟩ := (hK.2 t _ ht).2
  have hcomp : comp = D.1 ci := Option.some.inj (k3.symm.trans hcls.1)
  subst hcomp
  obtain ⟨kC, hkC, -⟩ := hcls.2
  refine W.aast C.1 C.2.1 (hP i _ (zk_w_get hh)) (fun q h => by cases h) (fun h => by cases h) k1 k2 rfl hkC ⟨h0, by show _ < (arrV _ _ _).slots.size; rw [arrV_size]; exact hlt⟩ g1 (fun q h => by rw [g3] at h; cases h) (by rw [g2]; exact hkC) (by rw [g2]; exact va_assign hcls) rfl rfl hd fun H1 e1 z oq => ?_
  have e2 : H1[base + i]? = some ((arrV (dA t) len (fun q => va_rf ((f q).map (zk_ad b base)))).setSlot x.toNatClampNeg (.ref (base + j))) := e1
  rw [arrV_store] at e2
  obtain ⟨g1, g2, g3⟩ := zk_stored (k := x.toNatClampNeg) hP hz hS hh (x := .inl (t, len, .inr (.inr (.inr (.inr (va_up f x.toNatClampNeg (some (j + 1)))))))) (by
    show H1[base + i]? = some (arrV (dA t) len (fun q => va_rf ((va_up f x.toNatClampNeg (some (j + 1)) q).map (zk_ad b base))))
    rw [e2]
    congr 2
    funext q
    by_cases hq : q = x.toNatClampNeg
    · subst hq
      simp [updV, va_up, va_rf, zk_ad]
    · simp [updV, va_up, hq]) z oq
  exact k H1 _ ls hl g1 g2 g3
theorem zk_born {D : va_G} {dA : Nat → ClassId} {b base : Nat} {h : zk_H} {s : State} {H H1 : Heap} {locs : List Loc} {x : zk_E} (hP : va_P D vwCl (zk_w dA b base h) H) (hz : H.size = base + h.length) (hS : va_S (fun q : Nat => base ≤ q) s.heap H locs) (he : va_at D vwCl (base + h.length, zk_e dA b base x) H1) (z1 : H1.size = H.size + 1) (o1 : ∀ q : Nat, q < H.size → H1[q]? = H[q]?) : va_P D vwCl (zk_w dA b base (h ++ [x])) H1 ∧ H1.size = base + (h ++ [x]).length ∧ va_S (fun q : Nat => base ≤ q) s.heap H1 locs := by
  refine ⟨?_, by rw [z1, hz, List.length_append]; rfl, ⟨Nat.le_trans hS.1 (by omega), fun x h1 h2 => (o1 x (Nat.lt_of_lt_of_le h1 hS.1)).trans (hS.2.1 x h1 h2), hS.2.2⟩⟩
  rw [← zk_w_push]
  have hk : ∀ (k : Nat) (x : Nat × va_E), (zk_w dA b base h)[k]? = some x → H1[x.1]? = H[x.1]? := fun k x hx => o1 x.1 ((hP k x hx).lt)
  refine (hP.kept hk).app (fun k q hq => ?_)
  have hz1 : k < 1 := (List.getElem?_eq_some_iff.mp hq).1
  rw [show k = 0 by omega] at hq
  cases hq
  exact he
def zk_N (own : String) (idx ci : Nat) (Cn : String) (T : u_T) (N : Nat) : Prop := vwCl[ci]? = some (Cn, T, N) ∧ Cond.classLink own idx Cn ∈ zk_tb ∧ Cond.instantiable Cn N ∈ zk_tb ∧ Cond.initialized Cn ∈ zk_tb ∧ (∀ w ∈ u_ws Cn T N, w ∈ zk_tb)
theorem zr_new (C : zk_C p s m meth c cc nL own nm ret D dA base sz) {idx ci N : Nat} {Cn : String} {T : u_T} {ty0 : Nat → FieldType} (F : zk_N own idx ci Cn T N) (Y : zk_Y T N ty0) (hd : decode cc pc = .ok (.new idx, 3)) {n : Nat} (hn : pc + 3 = n) (fs : List Value) (hfs : ∀ j, j < N → defaultValue (ty0 j) = vp_V fs j) (hfz : ∀ b base, fs.map (zk_v b base) = fs) (n0 : Nat) (hn0 : h.length = n0) (hcells : kc + 1 ≤ R.cells) (hslots : ks + N ≤ R.slots) (k : zk_V p l e R s m args below meth c nL D dA b base Q (kc + 1) (ks + N) n ll (.ref (n0 + 1) :: st) (h ++ [.inr (ci, fs)])) : zk_V p l e R s m args below meth c nL D dA b base Q kc ks pc ll st h := by
  subst hn
  subst hn0
  obtain ⟨f1, f2, f3, f4, f5⟩ := F
  obtain ⟨hx, hb, hml, hown, hK, hbs, hlk, hret, hnm⟩ := C
  intro H locs ls hl hP hz hS
  have hts := zk_T_at (args := args) hK
  have hKn := hK.1.1 ci _ f1
  refine W.newcK hx hb hown (hts _ f2) (hts _ f3) (hts _ f4) rfl hd hcells hslots hKn.2.1 hz fun H1 kC hkC e1 z1 o1 => ?_
  obtain ⟨g1, g2, g3⟩ := zk_born hP hz hS (x := .inr (ci, fs)) ⟨_, f1, by rw [hfz b base]; exact (u_born ty0 hts f5 hKn hkC e1 Y.1).to hfs⟩ (by rw [z1, hz]) (fun q hq => o1 q (by rw [← hz]; exact hq))
  exact k H1 _ ls hl g1 g2 g3
theorem zr_newi (C : zk_C p s m meth c cc nL own nm ret D dA base sz) (hw : Cond.arrayClass .int ∈ zk_tb) (hd : decode cc pc = .ok (.newarray .int, 2)) {n : Nat} (hn : pc + 2 = n) {x : Int32} {len : Nat} (h0 : ¬ x < 0) (hlen : x.toNatClampNeg = len) (hbytes : len * 4 ≤ 536870912) (n0 : Nat) (hn0 : h.length = n0) (hcells : kc + 1 ≤ R.cells) (hslots : ks + len ≤ R.slots) (k : zk_V p l e R s m args below meth c nL D dA b base Q (kc + 1) (ks + len) n ll (.ref (n0 + 1) :: st) (h ++ [.inl (0, len, .inl (fun _ => 0))])) : zk_V p l e R s m args below meth c nL D dA b base Q kc ks pc ll (.int x :: st) h := by
  subst hn
  subst hn0
  obtain ⟨hx, hb, hml, hown, hK, hbs, hlk, hret, hnm⟩ := C
  intro H locs ls hl hP hz hS
  have hts := zk_T_at (args := args) hK
  refine va_newaK hx hb (atype := .int) (hts _ hw) rfl hd rfl h0 hlen hbytes hcells hslots hz fun H1 cA e1 z1 o1 hAr hNm => ?_
  have hcA : cA = dA 0 := Option.some.inj (hNm.symm.trans (hK.1.2 0 _ rfl).2)
  subst hcA
  obtain ⟨g1, g2, g3⟩ := zk_born hP hz hS (x := .inl (0, len, .inl (fun _ => 0))) (show H1[base + h.length]? = some (arrV (dA 0) len (fun _ => .int 0)) from e1) (by rw [z1, hz]) (fun q hq => o1 q (by rw [← hz]; exact hq))
  exact k H1 _ ls hl g1 g2 g3
theorem zr_newq (C : zk_C p s m meth c cc nL own nm ret D dA base sz) {idx t : Nat} {E : String} (ht : (zk_tys dA)[t]? = some (dA t, .object E)) (hcl : Cond.classLink own idx E ∈ zk_tb) (hw : Cond.arrayOver (.object E) ∈ zk_tb) (hd : decode cc pc = .ok (.anewarray idx, 3)) {n : Nat} (hn : pc + 3 = n) {x : Int32} {len : Nat} (h0 : ¬ x < 0) (hlen : x.toNatClampNeg = len) (hbytes : len * 4 ≤ 536870912) (n0 : Nat) (hn0 : h.length = n0) (hcells : kc + 1 ≤ R.cells) (hslots : ks + len ≤ R.slots) (k : zk_V p l e R s m args below meth c nL D dA b base Q (kc + 1) (ks + len) n ll (.ref (n0 + 1) :: st) (h ++ [.inl (t, len, .inr (.inr (.inr (.inr (fun _ => none)))))])) : zk_V p l e R s m args below meth c nL D dA b base Q kc ks pc ll (.int x :: st) h := by
  subst hn
  subst hn0
  subst hlen
  obtain ⟨hx, hb, hml, hown, hK, hbs, hlk, hret, hnm⟩ := C
  intro H locs ls hl hP hz hS
  have hts := zk_T_at (args := args) hK
  refine W.anew hx hb hown (hts _ hcl) (hts _ hw) rfl hd rfl h0 hbytes hcells hslots fun cA kA comp f1 f2 f3 f4 => ?_
  have hcA : cA = dA t := by
    obtain ⟨_, _, _, _, _, q⟩ := (hK.1.2 t _ ht).2
    exact Option.some.inj (f1.symm.trans q)
  subst hcA
  generalize hH1 : H.push ({ cls := dA t, slots := Array.replicate x.toNatClampNeg .null, vm := .none } : Cell) = H1
  have z1 : H1.size = H.size + 1 := by rw [← hH1, Array.size_push]
  have e1 : H1[H.size]? = some (arrV (dA t) x.toNatClampNeg (fun _ => .null)) := by rw [← hH1, Array.getElem?_push_size, ← arrV_new]
  have o1 : ∀ q : Nat, q < H.size → H1[q]? = H[q]? := fun q hq => by rw [← hH1, Array.getElem?_push, if_neg (Nat.ne_of_lt hq)]
  rw [hz] at e1 ⊢
  obtain ⟨g1, g2, g3⟩ := zk_born hP hz hS (x := .inl (t, x.toNatClampNeg, .inr (.inr (.inr (.inr (fun _ => none)))))) (show H1[base + h.length]? = some (arrV (dA t) x.toNatClampNeg (fun _ => .null)) from e1) z1 o1
  exact k H1 _ ls hl g1 g2 g3
def zk_O (own : String) (idx : Nat) : Prop := Cond.methodLink own idx Lib.objectInit ∈ zk_tb ∧ Cond.instanceMethod Lib.objectInit ∈ zk_tb ∧ Cond.code Lib.objectInit ⟨#[0xb1]⟩ 1 none ∈ zk_tb
theorem zk_sum (b base : Nat) (rest : List Value) : ((rest.map (zk_v b base)).map fun v => v.category).sum = (rest.map fun v => v.category).sum := by
  rw [List.map_map]
  have e : ((fun v : Value => v.category) ∘ zk_v b base) = fun v => v.category := funext (zk_cat b base)
  rw [e]
theorem zr_objInit (C : zk_C p s m meth c cc nL own nm ret D dA base sz) {idx : Nat} (F : zk_O own idx) (hd : decode cc pc = .ok (.invokespecial idx, 3)) {n : Nat} (hn : pc + 3 = n) {i : Nat} (hfr : 1 ≤ R.frames) (hlo : (st.map fun v => v.category).sum + 12 ≤ R.locals) (k : zk_V p l e R s m args below meth c nL D dA b base Q kc ks n ll st h) : zk_V p l e R s m args below meth c nL D dA b base Q kc ks pc ll (.ref (i + 1) :: st) h := by
  subst hn
  obtain ⟨hx, hb, hml, hown, hK, hbs, hlk, hret, hnm⟩ := C
  intro H locs ls hl hP hz hS
  have hts := zk_T_at (args := args) hK
  exact W.objInit hx hb hown (hts _ F.1) (hts _ F.2.1) (hts _ F.2.2) rfl (by rw [hml]; exact hl.1) rfl hd hfr (by rw [zk_sum]; show 2 * 0 + _ + 12 ≤ _; omega) (k H locs ls hl hP hz hS)

theorem zr_iret {K : Option Value → zk_H → Prop} {mc ms : Nat} {x y : Int32} (C : zk_C p s m meth c cc nL own nm (some .int) D dA base sz) (hd : decode cc pc = .ok (.ireturn, 1)) (hxy : x = y) (hk : K (some (.int y)) h) (hc : kc ≤ mc) (hs : ks ≤ ms) : zk_V p l e R s m args below meth c nL D dA b base (MQ below (zk_Q K D dA b base) args s mc ms (fun q : Nat => base ≤ q)) kc ks pc ll [.int x] h := by
  intro H locs ls hl hP hz hS
  refine W.widen (k := mc) (n := ms) hc hs ?_
  subst hxy
  exact W.iret (v := x) C.1 C.2.1 C.2.2.2.2.2.2.2.1 (fun t ht hW => ⟨⟨(some (.int x)), h, rfl, hk, by rw [ht]; exact hP, by rw [ht]; exact hz⟩, hS.F ht⟩) hS.2.2 hd C.2.2.2.2.2.2.1
theorem zr_zret {K : Option Value → zk_H → Prop} {mc ms : Nat} {x y : Int32} (C : zk_C p s m meth c cc nL own nm (some .boolean) D dA base sz) (hd : decode cc pc = .ok (.ireturn, 1)) (hxy : x = y) (hnr : narrow .boolean (.int x) = .int x) (hk : K (some (.int y)) h) (hc : kc ≤ mc) (hs : ks ≤ ms) : zk_V p l e R s m args below meth c nL D dA b base (MQ below (zk_Q K D dA b base) args s mc ms (fun q : Nat => base ≤ q)) kc ks pc ll [.int x] h := by
  intro H locs ls hl hP hz hS
  refine W.widen (k := mc) (n := ms) hc hs ?_
  subst hxy
  exact W.zret (v := x) C.1 C.2.1 C.2.2.2.2.2.2.2.1 hnr (fun t ht hW => ⟨⟨(some (.int x)), h, rfl, hk, by rw [ht]; exact hP, by rw [ht]; exact hz⟩, hS.F ht⟩) hS.2.2 hd C.2.2.2.2.2.2.1
theorem zr_dret {K : Option Value → zk_H → Prop} {mc ms : Nat} {x y : UInt64} (C : zk_C p s m meth c cc nL own nm (some .double) D dA base sz) (hd : decode cc pc = .ok (.dreturn, 1)) (hxy : x = y) (hk : K (some (.double y)) h) (hc : kc ≤ mc) (hs : ks ≤ ms) : zk_V p l e R s m args below meth c nL D dA b base (MQ below (zk_Q K D dA b base) args s mc ms (fun q : Nat => base ≤ q)) kc ks pc ll [.double x] h := by
  intro H locs ls hl hP hz hS
  refine W.widen (k := mc) (n := ms) hc hs ?_
  subst hxy
  exact W.dret (v := x) C.1 C.2.1 C.2.2.2.2.2.2.2.1 (fun t ht hW => ⟨⟨(some (.double x)), h, rfl, hk, by rw [ht]; exact hP, by rw [ht]; exact hz⟩, hS.F ht⟩) hS.2.2 hd C.2.2.2.2.2.2.1
theorem zr_vret {K : Option Value → zk_H → Prop} {mc ms : Nat}  (C : zk_C p s m meth c cc nL own nm none D dA base sz) (hd : decode cc pc = .ok (.return_, 1))  (hk : K none h) (hc : kc ≤ mc) (hs : ks ≤ ms) : zk_V p l e R s m args below meth c nL D dA b base (MQ below (zk_Q K D dA b base) args s mc ms (fun q : Nat => base ≤ q)) kc ks pc ll [] h := by
  intro H locs ls hl hP hz hS
  refine W.widen (k := mc) (n := ms) hc hs ?_
  exact W.vret C.1 C.2.1 C.2.2.2.2.2.2.2.1 (fun t ht hW => ⟨⟨none, h, rfl, hk, by rw [ht]; exact hP, by rw [ht]; exact hz⟩, hS.F ht⟩) hS.2.2 hd C.2.2.2.2.2.2.1
theorem zr_aret {K : Option Value → zk_H → Prop} {mc ms : Nat} {E : String} {x : Nat} (C : zk_C p s m meth c cc nL own nm (some (.object E)) D dA base sz) (hd : decode cc pc = .ok (.areturn, 1))  (hk : K (some (.ref x)) h) (hc : kc ≤ mc) (hs : ks ≤ ms) : zk_V p l e R s m args below meth c nL D dA b base (MQ below (zk_Q K D dA b base) args s mc ms (fun q : Nat => base ≤ q)) kc ks pc ll [.ref x] h := by
  intro H locs ls hl hP hz hS
  refine W.widen (k := mc) (n := ms) hc hs ?_
  exact W.aret (v := .ref (zk_ad b base x)) C.1 C.2.1 C.2.2.2.2.2.2.2.1 (Or.inl ⟨_, rfl⟩) (Or.inr ⟨_, rfl⟩) (fun t ht hW => ⟨⟨(some (.ref x)), h, rfl, hk, by rw [ht]; exact hP, by rw [ht]; exact hz⟩, hS.F ht⟩) hS.2.2 hd C.2.2.2.2.2.2.1
theorem zk_after {K : Option Value → zk_H → Prop} {mc ms : Nat} {H : Heap} {locs : List Loc} {ls : Array Slot} {st0 rest : List Value} {a : Array Value} (run : va_Run p l e R s m args below meth c H locs kc ks mc ms (F0 m pc ls st0) (rest.map (zk_v b base)) (zk_Q K D dA b base a) (fun q : Nat => base ≤ q)) (hl : zk_l b base ls nL ll) (hS : va_S (fun q : Nat => base ≤ q) s.heap H locs) (hK : ∀ (r : Option Value) (h' : zk_H), K r h' → zk_V p l e R s m args below meth c nL D dA b base Q (kc + mc) (ks + ms) (pc + 3) ll (zk_push r rest) h') : W p l e R s m args below meth c H locs kc ks Q (F0 m pc ls st0) := by
  intro T hT X
  obtain ⟨v, st₀, t, T', L, h0, X', hL, e1, e2, ⟨⟨r, h', hv, hk, hP', hz'⟩, hz, hk2⟩, go⟩ := run T hT X
  rw [h0] at hz hk2
  have hS' : va_S (fun q : Nat => base ≤ q) s.heap T'.heap (locs ++ L) := ⟨Nat.le_trans hS.1 (by rw [e1]; exact hz), fun q h1 h2 => by rw [e1, hk2 q (Nat.lt_of_lt_of_le h1 hS.1) h2]; exact hS.2.1 q h1 h2, fun q hq => by
      rcases List.mem_append.mp hq with h | h
      · exact hS.2.2 q h
      · exact hL q h⟩
  have w := hK r h' hk T'.heap (locs ++ L) ls hl (by rw [e1]; exact hP') (by rw [e1]; exact hz') hS'
  obtain ⟨t2, a1, b1⟩ := w T' rfl X'
  cases r with
  | none => cases hv; exact ⟨t2, go t2 a1, b1⟩
  | some r => cases hv; exact ⟨t2, go t2 a1, b1⟩

theorem zk_goodc {y : MethodName} {bytes : ByteArray} {maxL : Nat} {rt : Option FieldType} (h : Cond.code y bytes maxL rt ∈ zk_tb) : GoodIn zk_tb [Cond.code y bytes maxL rt] := fun w hw => by
  rw [List.mem_singleton] at hw
  subst hw
  exact ⟨h, Or.inl rfl⟩
def zk_LS (own : String) (idx : Nat) (y : MethodName) (bytes : ByteArray) (maxL : Nat) (rt : Option FieldType) (n : Nat) : Prop := Cond.methodLink own idx y ∈ zk_tb ∧ Cond.static y ∈ zk_tb ∧ Cond.initialized y.cls ∈ zk_tb ∧ Cond.code y bytes maxL rt ∈ zk_tb ∧ (y.cls ≠ "java/lang/invoke/MethodHandle" ∧ y.cls ≠ "java/lang/invoke/VarHandle" ∧ (parseMethodDescriptor y.desc).map (fun d => d.parameters.length) = some n)
theorem zr_callS (C : zk_C p s m meth c cc nL own nm ret D dA base sz) {idx n maxL : Nat} {y : MethodName} {bytes : ByteArray} {rt : Option FieldType} (F : zk_LS own idx y bytes maxL rt n) (hd : decode cc pc = .ok (.invokestatic idx, 3)) {nx : Nat} (hn : pc + 3 = nx) (As rest : List Value) {rm : Room} (hst : As.reverse ++ rest = st) (hna : As.length = n) (hR : rm.frames + 1 ≤ R.frames ∧ 8 + (maxL + 11) + rm.locals ≤ R.locals) (hr8 : (rest.map fun v => v.category).sum ≤ 8) (hf : kc + rm.cells ≤ R.cells ∧ ks + rm.slots ≤ R.slots) (sp : zk_S l y bytes maxL rt rm As h (fun r h' => zk_V p l e R s m args below meth c nL D dA b base Q (kc + rm.cells) (ks + rm.slots) nx ll (zk_push r rest) h')) : zk_V p l e R s m args below meth c nL D dA b base Q kc ks pc ll st h := by
  subst hn
  subst hst
  obtain ⟨c0, cs, c1, c2, c3⟩ := F
  obtain ⟨hx, hb, hml, hown, hK, hbs, hlk, hret, hnm⟩ := C
  intro H locs ls hl hP hz hS
  have hts := zk_T_at (args := args) hK
  have cb := callB_of n hts (zk_goodc c2) rfl rfl rfl (hts _ c1) (hts _ c0) c3 hR
  refine zk_after (va_runS (As := As.map (zk_v b base)) (rest := rest.map (zk_v b base)) ⟨hx, hb, hml, hown, hts⟩ (sp D dA b base) ⟨cb, hts _ cs⟩ ⟨zk_P_blind, fun U hU hW => ⟨rfl, by rw [hU]; exact hP, by rw [hU]; exact hz, zk_K_warm hW hK⟩⟩ rfl (by rw [List.length_map]; exact hna) hl.1 (by simp [List.map_append, List.map_reverse, zk_v, zk_ad]) (lv_room (by rw [zk_sum]; exact hr8)) hd hf) hl hS (fun r h' q => q)
def zk_LSN (own : String) (idx : Nat) (y : MethodName) (bytes : ByteArray) (maxL : Nat) (rt : Option FieldType) (n : Nat) (host : String) : Prop := Cond.methodLinkNest own idx y host ∈ zk_tb ∧ Cond.static y ∈ zk_tb ∧ Cond.initialized y.cls ∈ zk_tb ∧ Cond.code y bytes maxL rt ∈ zk_tb ∧ (y.cls ≠ "java/lang/invoke/MethodHandle" ∧ y.cls ≠ "java/lang/invoke/VarHandle" ∧ (parseMethodDescriptor y.desc).map (fun d => d.parameters.length) = some n)
theorem zr_callSN (C : zk_C p s m meth c cc nL own nm ret D dA base sz) {idx n maxL : Nat} {y : MethodName} {bytes : ByteArray} {rt : Option FieldType} {host : String} (F : zk_LSN own idx y bytes maxL rt n host) (hd : decode cc pc = .ok (.invokestatic idx, 3)) {nx : Nat} (hn : pc + 3 = nx) (As rest : List Value) {rm : Room} (hst : As.reverse ++ rest = st) (hna : As.length = n) (hR : rm.frames + 1 ≤ R.frames ∧ 8 + (maxL + 11) + rm.locals ≤ R.locals) (hr8 : (rest.map fun v => v.category).sum ≤ 8) (hf : kc + rm.cells ≤ R.cells ∧ ks + rm.slots ≤ R.slots) (sp : zk_S l y bytes maxL rt rm As h (fun r h' => zk_V p l e R s m args below meth c nL D dA b base Q (kc + rm.cells) (ks + rm.slots) nx ll (zk_push r rest) h')) : zk_V p l e R s m args below meth c nL D dA b base Q kc ks pc ll st h := by
  subst hn
  subst hst
  obtain ⟨c0, cs, c1, c2, c3⟩ := F
  obtain ⟨hx, hb, hml, hown, hK, hbs, hlk, hret, hnm⟩ := C
  intro H locs ls hl hP hz hS
  have hts := zk_T_at (args := args) hK
  have cb := va_cnB (host := host) n hts (zk_goodc c2) rfl rfl rfl (hK.2 _ c0 #[]) (hts _ c1) c3 hR
  refine zk_after (va_runSN (As := As.map (zk_v b base)) (rest := rest.map (zk_v b base)) ⟨hx, hb, hml, hown, hts⟩ (sp D dA b base) ⟨cb, hts _ cs, trivial⟩ ⟨zk_P_blind, fun U hU hW => ⟨rfl, by rw [hU]; exact hP, by rw [hU]; exact hz, zk_K_warm hW hK⟩⟩ rfl (by rw [List.length_map]; exact hna) hl.1 (by simp [List.map_append, List.map_reverse, zk_v, zk_ad]) (lv_room (by rw [zk_sum]; exact hr8)) hd hf) hl hS (fun r h' q => q)
def zk_LV (own : String) (idx : Nat) (y : MethodName) (bytes : ByteArray) (maxL : Nat) (rt : Option FieldType) (n : Nat) : Prop := Cond.methodLink own idx y ∈ zk_tb ∧ (Cond.instanceMethod y ∈ zk_tb ∧ Cond.selects y.cls y y ∈ zk_tb) ∧ Cond.initialized y.cls ∈ zk_tb ∧ Cond.code y bytes maxL rt ∈ zk_tb ∧ (y.cls ≠ "java/lang/invoke/MethodHandle" ∧ y.cls ≠ "java/lang/invoke/VarHandle" ∧ (parseMethodDescriptor y.desc).map (fun d => d.parameters.length) = some n)
theorem zr_callV (C : zk_C p s m meth c cc nL own nm ret D dA base sz) {idx n maxL : Nat} {y : MethodName} {bytes : ByteArray} {rt : Option FieldType} (F : zk_LV own idx y bytes maxL rt n) (hd : decode cc pc = .ok (.invokevirtual idx, 3)) {nx : Nat} (hn : pc + 3 = nx) (As rest : List Value) {rm : Room} {i : Nat} (hst : As.reverse ++ .ref (i + 1) :: rest = st) (hna : As.length = n) {ci : Nat} {fs : List Value} {T : u_T} {N : Nat} (hh : h[i]? = some (.inr (ci, fs))) (hc : vwCl[ci]? = some (y.cls, T, N)) (hR : rm.frames + 1 ≤ R.frames ∧ 8 + (maxL + 11) + rm.locals ≤ R.locals) (hr8 : (rest.map fun v => v.category).sum ≤ 8) (hf : kc + rm.cells ≤ R.cells ∧ ks + rm.slots ≤ R.slots) (sp : zk_S l y bytes maxL rt rm (.ref (i + 1) :: As) h (fun r h' => zk_V p l e R s m args below meth c nL D dA b base Q (kc + rm.cells) (ks + rm.slots) nx ll (zk_push r rest) h')) : zk_V p l e R s m args below meth c nL D dA b base Q kc ks pc ll st h := by
  subst hn
  subst hst
  obtain ⟨c0, cs, c1, c2, c3⟩ := F
  obtain ⟨hx, hb, hml, hown, hK, hbs, hlk, hret, hnm⟩ := C
  intro H locs ls hl hP hz hS
  have hts := zk_T_at (args := args) hK
  have cb := callB_of n hts (zk_goodc c2) rfl rfl rfl (hts _ c1) (hts _ c0) c3 hR
  refine zk_after (va_runV (As := As.map (zk_v b base)) (rest := rest.map (zk_v b base)) (b := base + i) (C := y.cls) ⟨hx, hb, hml, hown, hts⟩ (sp D dA b base) ⟨cb, hts _ cs.1, hts _ cs.2⟩ ⟨zk_P_blind, va_recv hK.1 hP hc (zk_w_get hh), fun U hU hW => ⟨rfl, by rw [hU]; exact hP, by rw [hU]; exact hz, zk_K_warm hW hK⟩⟩ rfl (by rw [List.length_map]; exact hna) hl.1 (by simp [List.map_append, List.map_reverse, zk_v, zk_ad]) (lv_room (by rw [zk_sum]; exact hr8)) hd hf) hl hS (fun r h' q => q)
def zk_LVN (own : String) (idx : Nat) (y : MethodName) (bytes : ByteArray) (maxL : Nat) (rt : Option FieldType) (n : Nat) (host : String) : Prop := Cond.methodLinkNest own idx y host ∈ zk_tb ∧ (Cond.instanceMethod y ∈ zk_tb ∧ Cond.selects y.cls y y ∈ zk_tb) ∧ Cond.initialized y.cls ∈ zk_tb ∧ Cond.code y bytes maxL rt ∈ zk_tb ∧ (y.cls ≠ "java/lang/invoke/MethodHandle" ∧ y.cls ≠ "java/lang/invoke/VarHandle" ∧ (parseMethodDescriptor y.desc).map (fun d => d.parameters.length) = some n)
theorem zr_callVN (C : zk_C p s m meth c cc nL own nm ret D dA base sz) {idx n maxL : Nat} {y : MethodName} {bytes : ByteArray} {rt : Option FieldType} {host : String} (F : zk_LVN own idx y bytes maxL rt n host) (hd : decode cc pc = .ok (.invokevirtual idx, 3)) {nx : Nat} (hn : pc + 3 = nx) (As rest : List Value) {rm : Room} {i : Nat} (hst : As.reverse ++ .ref (i + 1) :: rest = st) (hna : As.length = n) {ci : Nat} {fs : List Value} {T : u_T} {N : Nat} (hh : h[i]? = some (.inr (ci, fs))) (hc : vwCl[ci]? = some (y.cls, T, N)) (hR : rm.frames + 1 ≤ R.frames ∧ 8 + (maxL + 11) + rm.locals ≤ R.locals) (hr8 : (rest.map fun v => v.category).sum ≤ 8) (hf : kc + rm.cells ≤ R.cells ∧ ks + rm.slots ≤ R.slots) (sp : zk_S l y bytes maxL rt rm (.ref (i + 1) :: As) h (fun r h' => zk_V p l e R s m args below meth c nL D dA b base Q (kc + rm.cells) (ks + rm.slots) nx ll (zk_push r rest) h')) : zk_V p l e R s m args below meth c nL D dA b base Q kc ks pc ll st h := by
  subst hn
  subst hst
  obtain ⟨c0, cs, c1, c2, c3⟩ := F
  obtain ⟨hx, hb, hml, hown, hK, hbs, hlk, hret, hnm⟩ := C
  intro H locs ls hl hP hz hS
  have hts := zk_T_at (args := args) hK
  have cb := va_cnB (host := host) n hts (zk_goodc c2) rfl rfl rfl (hK.2 _ c0 #[]) (hts _ c1) c3 hR
  refine zk_after (va_runVN (As := As.map (zk_v b base)) (rest := rest.map (zk_v b base)) (b := base + i) (C := y.cls) ⟨hx, hb, hml, hown, hts⟩ (sp D dA b base) ⟨cb, hts _ cs.1, hts _ cs.2⟩ ⟨zk_P_blind, va_recv hK.1 hP hc (zk_w_get hh), fun U hU hW => ⟨rfl, by rw [hU]; exact hP, by rw [hU]; exact hz, zk_K_warm hW hK⟩⟩ rfl (by rw [List.length_map]; exact hna) hl.1 (by simp [List.map_append, List.map_reverse, zk_v, zk_ad]) (lv_room (by rw [zk_sum]; exact hr8)) hd hf) hl hS (fun r h' q => q)
def zk_LI (own : String) (idx : Nat) (y : MethodName) (bytes : ByteArray) (maxL : Nat) (n : Nat) : Prop := Cond.methodLink own idx y ∈ zk_tb ∧ (Cond.instanceMethod y ∈ zk_tb ∧ y.name = "<init>") ∧ Cond.initialized y.cls ∈ zk_tb ∧ Cond.code y bytes maxL none ∈ zk_tb ∧ (y.cls ≠ "java/lang/invoke/MethodHandle" ∧ y.cls ≠ "java/lang/invoke/VarHandle" ∧ (parseMethodDescriptor y.desc).map (fun d => d.parameters.length) = some n)
theorem zr_callI (C : zk_C p s m meth c cc nL own nm ret D dA base sz) {idx n maxL : Nat} {y : MethodName} {bytes : ByteArray} (F : zk_LI own idx y bytes maxL n) (hd : decode cc pc = .ok (.invokespecial idx, 3)) {nx : Nat} (hn : pc + 3 = nx) (As rest : List Value) {rm : Room} {i : Nat} (hst : As.reverse ++ .ref (i + 1) :: rest = st) (hna : As.length = n) (hR : rm.frames + 1 ≤ R.frames ∧ 8 + (maxL + 11) + rm.locals ≤ R.locals) (hr8 : (rest.map fun v => v.category).sum ≤ 8) (hf : kc + rm.cells ≤ R.cells ∧ ks + rm.slots ≤ R.slots) (sp : zk_S l y bytes maxL none rm (.ref (i + 1) :: As) h (fun r h' => zk_V p l e R s m args below meth c nL D dA b base Q (kc + rm.cells) (ks + rm.slots) nx ll (zk_push r rest) h')) : zk_V p l e R s m args below meth c nL D dA b base Q kc ks pc ll st h := by
  subst hn
  subst hst
  obtain ⟨c0, cs, c1, c2, c3⟩ := F
  obtain ⟨hx, hb, hml, hown, hK, hbs, hlk, hret, hnm⟩ := C
  intro H locs ls hl hP hz hS
  have hts := zk_T_at (args := args) hK
  have cb := callB_of n hts (zk_goodc c2) rfl rfl rfl (hts _ c1) (hts _ c0) c3 hR
  refine zk_after (va_runI (As := As.map (zk_v b base)) (rest := rest.map (zk_v b base)) (b := base + i) ⟨hx, hb, hml, hown, hts⟩ (sp D dA b base) ⟨cb, cs.2, hts _ cs.1⟩ ⟨zk_P_blind, fun U hU hW => ⟨rfl, by rw [hU]; exact hP, by rw [hU]; exact hz, zk_K_warm hW hK⟩⟩ rfl (by rw [List.length_map]; exact hna) hl.1 (by simp [List.map_append, List.map_reverse, zk_v, zk_ad]) (lv_room (by rw [zk_sum]; exact hr8)) hd hf) hl hS (fun r h' q => q)
def zk_LIN (own : String) (idx : Nat) (y : MethodName) (bytes : ByteArray) (maxL : Nat) (n : Nat) (host : String) : Prop := Cond.methodLinkNest own idx y host ∈ zk_tb ∧ (Cond.instanceMethod y ∈ zk_tb ∧ y.name = "<init>") ∧ Cond.initialized y.cls ∈ zk_tb ∧ Cond.code y bytes maxL none ∈ zk_tb ∧ (y.cls ≠ "java/lang/invoke/MethodHandle" ∧ y.cls ≠ "java/lang/invoke/VarHandle" ∧ (parseMethodDescriptor y.desc).map (fun d => d.parameters.length) = some n)
theorem zr_callIN (C : zk_C p s m meth c cc nL own nm ret D dA base sz) {idx n maxL : Nat} {y : MethodName} {bytes : ByteArray} {host : String} (F : zk_LIN own idx y bytes maxL n host) (hd : decode cc pc = .ok (.invokespecial idx, 3)) {nx : Nat} (hn : pc + 3 = nx) (As rest : List Value) {rm : Room} {i : Nat} (hst : As.reverse ++ .ref (i + 1) :: rest = st) (hna : As.length = n) (hR : rm.frames + 1 ≤ R.frames ∧ 8 + (maxL + 11) + rm.locals ≤ R.locals) (hr8 : (rest.map fun v => v.category).sum ≤ 8) (hf : kc + rm.cells ≤ R.cells ∧ ks + rm.slots ≤ R.slots) (sp : zk_S l y bytes maxL none rm (.ref (i + 1) :: As) h (fun r h' => zk_V p l e R s m args below meth c nL D dA b base Q (kc + rm.cells) (ks + rm.slots) nx ll (zk_push r rest) h')) : zk_V p l e R s m args below meth c nL D dA b base Q kc ks pc ll st h := by
  subst hn
  subst hst
  obtain ⟨c0, cs, c1, c2, c3⟩ := F
  obtain ⟨hx, hb, hml, hown, hK, hbs, hlk, hret, hnm⟩ := C
  intro H locs ls hl hP hz hS
  have hts := zk_T_at (args := args) hK
  have cb := va_cnB (host := host) n hts (zk_goodc c2) rfl rfl rfl (hK.2 _ c0 #[]) (hts _ c1) c3 hR
  refine zk_after (va_runIN (As := As.map (zk_v b base)) (rest := rest.map (zk_v b base)) (b := base + i) ⟨hx, hb, hml, hown, hts⟩ (sp D dA b base) ⟨cb, cs.2, hts _ cs.1⟩ ⟨zk_P_blind, fun U hU hW => ⟨rfl, by rw [hU]; exact hP, by rw [hU]; exact hz, zk_K_warm hW hK⟩⟩ rfl (by rw [List.length_map]; exact hna) hl.1 (by simp [List.map_append, List.map_reverse, zk_v, zk_ad]) (lv_room (by rw [zk_sum]; exact hr8)) hd hf) hl hS (fun r h' q => q)
theorem zr_callS0 (C : zk_C p s m meth c cc nL own nm ret D dA base sz) {idx maxL : Nat} {y : MethodName} {bytes : ByteArray} {rt : Option FieldType} (F : zk_LS own idx y bytes maxL rt 0) (hd : decode cc pc = .ok (.invokestatic idx, 3)) {nx : Nat} (hn : pc + 3 = nx) {rm : Room} (hR : rm.frames + 1 ≤ R.frames ∧ 8 + (maxL + 11) + rm.locals ≤ R.locals) (hr8 : (st.map fun v => v.category).sum ≤ 8) (hf : kc + rm.cells ≤ R.cells ∧ ks + rm.slots ≤ R.slots) (sp : zk_S l y bytes maxL rt rm [] h (fun r h' => zk_V p l e R s m args below meth c nL D dA b base Q (kc + rm.cells) (ks + rm.slots) nx ll (zk_push r st) h')) : zk_V p l e R s m args below meth c nL D dA b base Q kc ks pc ll (st) h := zr_callS C F hd hn [] st rfl rfl hR hr8 hf sp
theorem zr_callS1 (C : zk_C p s m meth c cc nL own nm ret D dA base sz) {idx maxL : Nat} {y : MethodName} {bytes : ByteArray} {rt : Option FieldType} (F : zk_LS own idx y bytes maxL rt 1) (hd : decode cc pc = .ok (.invokestatic idx, 3)) {nx : Nat} (hn : pc + 3 = nx) {a1 : Value} {rm : Room} (hR : rm.frames + 1 ≤ R.frames ∧ 8 + (maxL + 11) + rm.locals ≤ R.locals) (hr8 : (st.map fun v => v.category).sum ≤ 8) (hf : kc + rm.cells ≤ R.cells ∧ ks + rm.slots ≤ R.slots) (sp : zk_S l y bytes maxL rt rm [a1] h (fun r h' => zk_V p l e R s m args below meth c nL D dA b base Q (kc + rm.cells) (ks + rm.slots) nx ll (zk_push r st) h')) : zk_V p l e R s m args below meth c nL D dA b base Q kc ks pc ll (a1 :: st) h := zr_callS C F hd hn [a1] st rfl rfl hR hr8 hf sp
theorem zr_callS2 (C : zk_C p s m meth c cc nL own nm ret D dA base sz) {idx maxL : Nat} {y : MethodName} {bytes : ByteArray} {rt : Option FieldType} (F : zk_LS own idx y bytes maxL rt 2) (hd : decode cc pc = .ok (.invokestatic idx, 3)) {nx : Nat} (hn : pc + 3 = nx) {a1 a2 : Value} {rm : Room} (hR : rm.frames + 1 ≤ R.frames ∧ 8 + (maxL + 11) + rm.locals ≤ R.locals) (hr8 : (st.map fun v => v.category).sum ≤ 8) (hf : kc + rm.cells ≤ R.cells ∧ ks + rm.slots ≤ R.slots) (sp : zk_S l y bytes maxL rt rm [a1, a2] h (fun r h' => zk_V p l e R s m args below meth c nL D dA b base Q (kc + rm.cells) (ks + rm.slots) nx ll (zk_push r st) h')) : zk_V p l e R s m args below meth c nL D dA b base Q kc ks pc ll (a2 :: a1 :: st) h := zr_callS C F hd hn [a1, a2] st rfl rfl hR hr8 hf sp
theorem zr_callS3 (C : zk_C p s m meth c cc nL own nm ret D dA base sz) {idx maxL : Nat} {y : MethodName} {bytes : ByteArray} {rt : Option FieldType} (F : zk_LS own idx y bytes maxL rt 3) (hd : decode cc pc = .ok (.invokestatic idx, 3)) {nx : Nat} (hn : pc + 3 = nx) {a1 a2 a3 : Value} {rm : Room} (hR : rm.frames + 1 ≤ R.frames ∧ 8 + (maxL + 11) + rm.locals ≤ R.locals) (hr8 : (st.map fun v => v.category).sum ≤ 8) (hf : kc + rm.cells ≤ R.cells ∧ ks + rm.slots ≤ R.slots) (sp : zk_S l y bytes maxL rt rm [a1, a2, a3] h (fun r h' => zk_V p l e R s m args below meth c nL D dA b base Q (kc + rm.cells) (ks + rm.slots) nx ll (zk_push r st) h')) : zk_V p l e R s m args below meth c nL D dA b base Q kc ks pc ll (a3 :: a2 :: a1 :: st) h := zr_callS C F hd hn [a1, a2, a3] st rfl rfl hR hr8 hf sp
theorem zr_callS4 (C : zk_C p s m meth c cc nL own nm ret D dA base sz) {idx maxL : Nat} {y : MethodName} {bytes : ByteArray} {rt : Option FieldType} (F : zk_LS own idx y bytes maxL rt 4) (hd : decode cc pc = .ok (.invokestatic idx, 3)) {nx : Nat} (hn : pc + 3 = nx) {a1 a2 a3 a4 : Value} {rm : Room} (hR : rm.frames + 1 ≤ R.frames ∧ 8 + (maxL + 11) + rm.locals ≤ R.locals) (hr8 : (st.map fun v => v.category).sum ≤ 8) (hf : kc + rm.cells ≤ R.cells ∧ ks + rm.slots ≤ R.slots) (sp : zk_S l y bytes maxL rt rm [a1, a2, a3, a4] h (fun r h' => zk_V p l e R s m args below meth c nL D dA b base Q (kc + rm.cells) (ks + rm.slots) nx ll (zk_push r st) h')) : zk_V p l e R s m args below meth c nL D dA b base Q kc ks pc ll (a4 :: a3 :: a2 :: a1 :: st) h := zr_callS C F hd hn [a1, a2, a3, a4] st rfl rfl hR hr8 hf sp
theorem zr_callS5 (C : zk_C p s m meth c cc nL own nm ret D dA base sz) {idx maxL : Nat} {y : MethodName} {bytes : ByteArray} {rt : Option FieldType} (F : zk_LS own idx y bytes maxL rt 5) (hd : decode cc pc = .ok (.invokestatic idx, 3)) {nx : Nat} (hn : pc + 3 = nx) {a1 a2 a3 a4 a5 : Value} {rm : Room} (hR : rm.frames + 1 ≤ R.frames ∧ 8 + (maxL + 11) + rm.locals ≤ R.locals) (hr8 : (st.map fun v => v.category).sum ≤ 8) (hf : kc + rm.cells ≤ R.cells ∧ ks + rm.slots ≤ R.slots) (sp : zk_S l y bytes maxL rt rm [a1, a2, a3, a4, a5] h (fun r h' => zk_V p l e R s m args below meth c nL D dA b base Q (kc + rm.cells) (ks + rm.slots) nx ll (zk_push r st) h')) : zk_V p l e R s m args below meth c nL D dA b base Q kc ks pc ll (a5 :: a4 :: a3 :: a2 :: a1 :: st) h := zr_callS C F hd hn [a1, a2, a3, a4, a5] st rfl rfl hR hr8 hf sp
theorem zr_callS6 (C : zk_C p s m meth c cc nL own nm ret D dA base sz) {idx maxL : Nat} {y : MethodName} {bytes : ByteArray} {rt : Option FieldType} (F : zk_LS own idx y bytes maxL rt 6) (hd : decode cc pc = .ok (.invokestatic idx, 3)) {nx : Nat} (hn : pc + 3 = nx) {a1 a2 a3 a4 a5 a6 : Value} {rm : Room} (hR : rm.frames + 1 ≤ R.frames ∧ 8 + (maxL + 11) + rm.locals ≤ R.locals) (hr8 : (st.map fun v => v.category).sum ≤ 8) (hf : kc + rm.cells ≤ R.cells ∧ ks + rm.slots ≤ R.slots) (sp : zk_S l y bytes maxL rt rm [a1, a2, a3, a4, a5, a6] h (fun r h' => zk_V p l e R s m args below meth c nL D dA b base Q (kc + rm.cells) (ks + rm.slots) nx ll (zk_push r st) h')) : zk_V p l e R s m args below meth c nL D dA b base Q kc ks pc ll (a6 :: a5 :: a4 :: a3 :: a2 :: a1 :: st) h := zr_callS C F hd hn [a1, a2, a3, a4, a5, a6] st rfl rfl hR hr8 hf sp
theorem zr_callSN0 (C : zk_C p s m meth c cc nL own nm ret D dA base sz) {idx maxL : Nat} {y : MethodName} {bytes : ByteArray} {rt : Option FieldType} {host : String} (F : zk_LSN own idx y bytes maxL rt 0 host) (hd : decode cc pc = .ok (.invokestatic idx, 3)) {nx : Nat} (hn : pc + 3 = nx) {rm : Room} (hR : rm.frames + 1 ≤ R.frames ∧ 8 + (maxL + 11) + rm.locals ≤ R.locals) (hr8 : (st.map fun v => v.category).sum ≤ 8) (hf : kc + rm.cells ≤ R.cells ∧ ks + rm.slots ≤ R.slots) (sp : zk_S l y bytes maxL rt rm [] h (fun r h' => zk_V p l e R s m args below meth c nL D dA b base Q (kc + rm.cells) (ks + rm.slots) nx ll (zk_push r st) h')) : zk_V p l e R s m args below meth c nL D dA b base Q kc ks pc ll (st) h := zr_callSN C F hd hn [] st rfl rfl hR hr8 hf sp
theorem zr_callSN1 (C : zk_C p s m meth c cc nL own nm ret D dA base sz) {idx maxL : Nat} {y : MethodName} {bytes : ByteArray} {rt : Option FieldType} {host : String} (F : zk_LSN own idx y bytes maxL rt 1 host) (hd : decode cc pc = .ok (.invokestatic idx, 3)) {nx : Nat} (hn : pc + 3 = nx) {a1 : Value} {rm : Room} (hR : rm.frames + 1 ≤ R.frames ∧ 8 + (maxL + 11) + rm.locals ≤ R.locals) (hr8 : (st.map fun v => v.category).sum ≤ 8) (hf : kc + rm.cells ≤ R.cells ∧ ks + rm.slots ≤ R.slots) (sp : zk_S l y bytes maxL rt rm [a1] h (fun r h' => zk_V p l e R s m args below meth c nL D dA b base Q (kc + rm.cells) (ks + rm.slots) nx ll (zk_push r st) h')) : zk_V p l e R s m args below meth c nL D dA b base Q kc ks pc ll (a1 :: st) h := zr_callSN C F hd hn [a1] st rfl rfl hR hr8 hf sp
theorem zr_callSN2 (C : zk_C p s m meth c cc nL own nm ret D dA base sz) {idx maxL : Nat} {y : MethodName} {bytes : ByteArray} {rt : Option FieldType} {host : String} (F : zk_LSN own idx y bytes maxL rt 2 host) (hd : decode cc pc = .ok (.invokestatic idx, 3)) {nx : Nat} (hn : pc + 3 = nx) {a1 a2 : Value} {rm : Room} (hR : rm.frames + 1 ≤ R.frames ∧ 8 + (maxL + 11) + rm.locals ≤ R.locals) (hr8 : (st.map fun v => v.category).sum ≤ 8) (hf : kc + rm.cells ≤ R.cells ∧ ks + rm.slots ≤ R.slots) (sp : zk_S l y bytes maxL rt rm [a1, a2] h (fun r h' => zk_V p l e R s m args below meth c nL D dA b base Q (kc + rm.cells) (ks + rm.slots) nx ll (zk_push r st) h')) : zk_V p l e R s m args below meth c nL D dA b base Q kc ks pc ll (a2 :: a1 :: st) h := zr_callSN C F hd hn [a1, a2] st rfl rfl hR hr8 hf sp
theorem zr_callSN3 (C : zk_C p s m meth c cc nL own nm ret D dA base sz) {idx maxL : Nat} {y : MethodName} {bytes : ByteArray} {rt : Option FieldType} {host : String} (F : zk_LSN own idx y bytes maxL rt 3 host) (hd : decode cc pc = .ok (.invokestatic idx, 3)) {nx : Nat} (hn : pc + 3 = nx) {a1 a2 a3 : Value} {rm : Room} (hR : rm.frames + 1 ≤ R.frames ∧ 8 + (maxL + 11) + rm.locals ≤ R.locals) (hr8 : (st.map fun v => v.category).sum ≤ 8) (hf : kc + rm.cells ≤ R.cells ∧ ks + rm.slots ≤ R.slots) (sp : zk_S l y bytes maxL rt rm [a1, a2, a3] h (fun r h' => zk_V p l e R s m args below meth c nL D dA b base Q (kc + rm.cells) (ks + rm.slots) nx ll (zk_push r st) h')) : zk_V p l e R s m args below meth c nL D dA b base Q kc ks pc ll (a3 :: a2 :: a1 :: st) h := zr_callSN C F hd hn [a1, a2, a3] st rfl rfl hR hr8 hf sp
theorem zr_callSN4 (C : zk_C p s m meth c cc nL own nm ret D dA base sz) {idx maxL : Nat} {y : MethodName} {bytes : ByteArray} {rt : Option FieldType} {host : String} (F : zk_LSN own idx y bytes maxL rt 4 host) (hd : decode cc pc = .ok (.invokestatic idx, 3)) {nx : Nat} (hn : pc + 3 = nx) {a1 a2 a3 a4 : Value} {rm : Room} (hR : rm.frames + 1 ≤ R.frames ∧ 8 + (maxL + 11) + rm.locals ≤ R.locals) (hr8 : (st.map fun v => v.category).sum ≤ 8) (hf : kc + rm.cells ≤ R.cells ∧ ks + rm.slots ≤ R.slots) (sp : zk_S l y bytes maxL rt rm [a1, a2, a3, a4] h (fun r h' => zk_V p l e R s m args below meth c nL D dA b base Q (kc + rm.cells) (ks + rm.slots) nx ll (zk_push r st) h')) : zk_V p l e R s m args below meth c nL D dA b base Q kc ks pc ll (a4 :: a3 :: a2 :: a1 :: st) h := zr_callSN C F hd hn [a1, a2, a3, a4] st rfl rfl hR hr8 hf sp
theorem zr_callSN5 (C : zk_C p s m meth c cc nL own nm ret D dA base sz) {idx maxL : Nat} {y : MethodName} {bytes : ByteArray} {rt : Option FieldType} {host : String} (F : zk_LSN own idx y bytes maxL rt 5 host) (hd : decode cc pc = .ok (.invokestatic idx, 3)) {nx : Nat} (hn : pc + 3 = nx) {a1 a2 a3 a4 a5 : Value} {rm : Room} (hR : rm.frames + 1 ≤ R.frames ∧ 8 + (maxL + 11) + rm.locals ≤ R.locals) (hr8 : (st.map fun v => v.category).sum ≤ 8) (hf : kc + rm.cells ≤ R.cells ∧ ks + rm.slots ≤ R.slots) (sp : zk_S l y bytes maxL rt rm [a1, a2, a3, a4, a5] h (fun r h' => zk_V p l e R s m args below meth c nL D dA b base Q (kc + rm.cells) (ks + rm.slots) nx ll (zk_push r st) h')) : zk_V p l e R s m args below meth c nL D dA b base Q kc ks pc ll (a5 :: a4 :: a3 :: a2 :: a1 :: st) h := zr_callSN C F hd hn [a1, a2, a3, a4, a5] st rfl rfl hR hr8 hf sp
theorem zr_callSN6 (C : zk_C p s m meth c cc nL own nm ret D dA base sz) {idx maxL : Nat} {y : MethodName} {bytes : ByteArray} {rt : Option FieldType} {host : String} (F : zk_LSN own idx y bytes maxL rt 6 host) (hd : decode cc pc = .ok (.invokestatic idx, 3)) {nx : Nat} (hn : pc + 3 = nx) {a1 a2 a3 a4 a5 a6 : Value} {rm : Room} (hR : rm.frames + 1 ≤ R.frames ∧ 8 + (maxL + 11) + rm.locals ≤ R.locals) (hr8 : (st.map fun v => v.category).sum ≤ 8) (hf : kc + rm.cells ≤ R.cells ∧ ks + rm.slots ≤ R.slots) (sp : zk_S l y bytes maxL rt rm [a1, a2, a3, a4, a5, a6] h (fun r h' => zk_V p l e R s m args below meth c nL D dA b base Q (kc + rm.cells) (ks + rm.slots) nx ll (zk_push r st) h')) : zk_V p l e R s m args below meth c nL D dA b base Q kc ks pc ll (a6 :: a5 :: a4 :: a3 :: a2 :: a1 :: st) h := zr_callSN C F hd hn [a1, a2, a3, a4, a5, a6] st rfl rfl hR hr8 hf sp
theorem zr_callV0 (C : zk_C p s m meth c cc nL own nm ret D dA base sz) {idx maxL : Nat} {y : MethodName} {bytes : ByteArray} {rt : Option FieldType} (F : zk_LV own idx y bytes maxL rt 0) (hd : decode cc pc = .ok (.invokevirtual idx, 3)) {nx : Nat} (hn : pc + 3 = nx) {rm : Room} {i : Nat} {ci : Nat} {fs : List Value} {T : u_T} {N : Nat} (hh : h[i]? = some (.inr (ci, fs))) (hc : vwCl[ci]? = some (y.cls, T, N)) (hR : rm.frames + 1 ≤ R.frames ∧ 8 + (maxL + 11) + rm.locals ≤ R.locals) (hr8 : (st.map fun v => v.category).sum ≤ 8) (hf : kc + rm.cells ≤ R.cells ∧ ks + rm.slots ≤ R.slots) (sp : zk_S l y bytes maxL rt rm (.ref (i + 1) :: []) h (fun r h' => zk_V p l e R s m args below meth c nL D dA b base Q (kc + rm.cells) (ks + rm.slots) nx ll (zk_push r st) h')) : zk_V p l e R s m args below meth c nL D dA b base Q kc ks pc ll (.ref (i + 1) :: st) h := zr_callV C F hd hn [] st rfl rfl hh hc hR hr8 hf sp
theorem zr_callV1 (C : zk_C p s m meth c cc nL own nm ret D dA base sz) {idx maxL : Nat} {y : MethodName} {bytes : ByteArray} {rt : Option FieldType} (F : zk_LV own idx y bytes maxL rt 1) (hd : decode cc pc = .ok (.invokevirtual idx, 3)) {nx : Nat} (hn : pc + 3 = nx) {a1 : Value} {rm : Room} {i : Nat} {ci : Nat} {fs : List Value} {T : u_T} {N : Nat} (hh : h[i]? = some (.inr (ci, fs))) (hc : vwCl[ci]? = some (y.cls, T, N)) (hR : rm.frames + 1 ≤ R.frames ∧ 8 + (maxL + 11) + rm.locals ≤ R.locals) (hr8 : (st.map fun v => v.category).sum ≤ 8) (hf : kc + rm.cells ≤ R.cells ∧ ks + rm.slots ≤ R.slots) (sp : zk_S l y bytes maxL rt rm (.ref (i + 1) :: [a1]) h (fun r h' => zk_V p l e R s m args below meth c nL D dA b base Q (kc + rm.cells) (ks + rm.slots) nx ll (zk_push r st) h')) : zk_V p l e R s m args below meth c nL D dA b base Q kc ks pc ll (a1 :: .ref (i + 1) :: st) h := zr_callV C F hd hn [a1] st rfl rfl hh hc hR hr8 hf sp
theorem zr_callV2 (C : zk_C p s m meth c cc nL own nm ret D dA base sz) {idx maxL : Nat} {y : MethodName} {bytes : ByteArray} {rt : Option FieldType} (F : zk_LV own idx y bytes maxL rt 2) (hd : decode cc pc = .ok (.invokevirtual idx, 3)) {nx : Nat} (hn : pc + 3 = nx) {a1 a2 : Value} {rm : Room} {i : Nat} {ci : Nat} {fs : List Value} {T : u_T} {N : Nat} (hh : h[i]? = some (.inr (ci, fs))) (hc : vwCl[ci]? = some (y.cls, T, N)) (hR : rm.frames + 1 ≤ R.frames ∧ 8 + (maxL + 11) + rm.locals ≤ R.locals) (hr8 : (st.map fun v => v.category).sum ≤ 8) (hf : kc + rm.cells ≤ R.cells ∧ ks + rm.slots ≤ R.slots) (sp : zk_S l y bytes maxL rt rm (.ref (i + 1) :: [a1, a2]) h (fun r h' => zk_V p l e R s m args below meth c nL D dA b base Q (kc + rm.cells) (ks + rm.slots) nx ll (zk_push r st) h')) : zk_V p l e R s m args below meth c nL D dA b base Q kc ks pc ll (a2 :: a1 :: .ref (i + 1) :: st) h := zr_callV C F hd hn [a1, a2] st rfl rfl hh hc hR hr8 hf sp
theorem zr_callV3 (C : zk_C p s m meth c cc nL own nm ret D dA base sz) {idx maxL : Nat} {y : MethodName} {bytes : ByteArray} {rt : Option FieldType} (F : zk_LV own idx y bytes maxL rt 3) (hd : decode cc pc = .ok (.invokevirtual idx, 3)) {nx : Nat} (hn : pc + 3 = nx) {a1 a2 a3 : Value} {rm : Room} {i : Nat} {ci : Nat} {fs : List Value} {T : u_T} {N : Nat} (hh : h[i]? = some (.inr (ci, fs))) (hc : vwCl[ci]? = some (y.cls, T, N)) (hR : rm.frames + 1 ≤ R.frames ∧ 8 + (maxL + 11) + rm.locals ≤ R.locals) (hr8 : (st.map fun v => v.category).sum ≤ 8) (hf : kc + rm.cells ≤ R.cells ∧ ks + rm.slots ≤ R.slots) (sp : zk_S l y bytes maxL rt rm (.ref (i + 1) :: [a1, a2, a3]) h (fun r h' => zk_V p l e R s m args below meth c nL D dA b base Q (kc + rm.cells) (ks + rm.slots) nx ll (zk_push r st) h')) : zk_V p l e R s m args below meth c nL D dA b base Q kc ks pc ll (a3 :: a2 :: a1 :: .ref (i + 1) :: st) h := zr_callV C F hd hn [a1, a2, a3] st rfl rfl hh hc hR hr8 hf sp
theorem zr_callV4 (C : zk_C p s m meth c cc nL own nm ret D dA base sz) {idx maxL : Nat} {y : MethodName} {bytes : ByteArray} {rt : Option FieldType} (F : zk_LV own idx y bytes maxL rt 4) (hd : decode cc pc = .ok (.invokevirtual idx, 3)) {nx : Nat} (hn : pc + 3 = nx) {a1 a2 a3 a4 : Value} {rm : Room} {i : Nat} {ci : Nat} {fs : List Value} {T : u_T} {N : Nat} (hh : h[i]? = some (.inr (ci, fs))) (hc : vwCl[ci]? = some (y.cls, T, N)) (hR : rm.frames + 1 ≤ R.frames ∧ 8 + (maxL + 11) + rm.locals ≤ R.locals) (hr8 : (st.map fun v => v.category).sum ≤ 8) (hf : kc + rm.cells ≤ R.cells ∧ ks + rm.slots ≤ R.slots) (sp : zk_S l y bytes maxL rt rm (.ref (i + 1) :: [a1, a2, a3, a4]) h (fun r h' => zk_V p l e R s m args below meth c nL D dA b base Q (kc + rm.cells) (ks + rm.slots) nx ll (zk_push r st) h')) : zk_V p l e R s m args below meth c nL D dA b base Q kc ks pc ll (a4 :: a3 :: a2 :: a1 :: .ref (i + 1) :: st) h := zr_callV C F hd hn [a1, a2, a3, a4] st rfl rfl hh hc hR hr8 hf sp
theorem zr_callV5 (C : zk_C p s m meth c cc nL own nm ret D dA base sz) {idx maxL : Nat} {y : MethodName} {bytes : ByteArray} {rt : Option FieldType} (F : zk_LV own idx y bytes maxL rt 5) (hd : decode cc pc = .ok (.invokevirtual idx, 3)) {nx : Nat} (hn : pc + 3 = nx) {a1 a2 a3 a4 a5 : Value} {rm : Room} {i : Nat} {ci : Nat} {fs : List Value} {T : u_T} {N : Nat} (hh : h[i]? = some (.inr (ci, fs))) (hc : vwCl[ci]? = some (y.cls, T, N)) (hR : rm.frames + 1 ≤ R.frames ∧ 8 + (maxL + 11) + rm.locals ≤ R.locals) (hr8 : (st.map fun v => v.category).sum ≤ 8) (hf : kc + rm.cells ≤ R.cells ∧ ks + rm.slots ≤ R.slots) (sp : zk_S l y bytes maxL rt rm (.ref (i + 1) :: [a1, a2, a3, a4, a5]) h (fun r h' => zk_V p l e R s m args below meth c nL D dA b base Q (kc + rm.cells) (ks + rm.slots) nx ll (zk_push r st) h')) : zk_V p l e R s m args below meth c nL D dA b base Q kc ks pc ll (a5 :: a4 :: a3 :: a2 :: a1 :: .ref (i + 1) :: st) h := zr_callV C F hd hn [a1, a2, a3, a4, a5] st rfl rfl hh hc hR hr8 hf sp
theorem zr_callV6 (C : zk_C p s m meth c cc nL own nm ret D dA base sz) {idx maxL : Nat} {y : MethodName} {bytes : ByteArray} {rt : Option FieldType} (F : zk_LV own idx y bytes maxL rt 6) (hd : decode cc pc = .ok (.invokevirtual idx, 3)) {nx : Nat} (hn : pc + 3 = nx) {a1 a2 a3 a4 a5 a6 : Value} {rm : Room} {i : Nat} {ci : Nat} {fs : List Value} {T : u_T} {N : Nat} (hh : h[i]? = some (.inr (ci, fs))) (hc : vwCl[ci]? = some (y.cls, T, N)) (hR : rm.frames + 1 ≤ R.frames ∧ 8 + (maxL + 11) + rm.locals ≤ R.locals) (hr8 : (st.map fun v => v.category).sum ≤ 8) (hf : kc + rm.cells ≤ R.cells ∧ ks + rm.slots ≤ R.slots) (sp : zk_S l y bytes maxL rt rm (.ref (i + 1) :: [a1, a2, a3, a4, a5, a6]) h (fun r h' => zk_V p l e R s m args below meth c nL D dA b base Q (kc + rm.cells) (ks + rm.slots) nx ll (zk_push r st) h')) : zk_V p l e R s m args below meth c nL D dA b base Q kc ks pc ll (a6 :: a5 :: a4 :: a3 :: a2 :: a1 :: .ref (i + 1) :: st) h := zr_callV C F hd hn [a1, a2, a3, a4, a5, a6] st rfl rfl hh hc hR hr8 hf sp
theorem zr_callVN0 (C : zk_C p s m meth c cc nL own nm ret D dA base sz) {idx maxL : Nat} {y : MethodName} {bytes : ByteArray} {rt : Option FieldType} {host : String} (F : zk_LVN own idx y bytes maxL rt 0 host) (hd : decode cc pc = .ok (.invokevirtual idx, 3)) {nx : Nat} (hn : pc + 3 = nx) {rm : Room} {i : Nat} {ci : Nat} {fs : List Value} {T : u_T} {N : Nat} (hh : h[i]? = some (.inr (ci, fs))) (hc : vwCl[ci]? = some (y.cls, T, N)) (hR : rm.frames + 1 ≤ R.frames ∧ 8 + (maxL + 11) + rm.locals ≤ R.locals) (hr8 : (st.map fun v => v.category).sum ≤ 8) (hf : kc + rm.cells ≤ R.cells ∧ ks + rm.slots ≤ R.slots) (sp : zk_S l y bytes maxL rt rm (.ref (i + 1) :: []) h (fun r h' => zk_V p l e R s m args below meth c nL D dA b base Q (kc + rm.cells) (ks + rm.slots) nx ll (zk_push r st) h')) : zk_V p l e R s m args below meth c nL D dA b base Q kc ks pc ll (.ref (i + 1) :: st) h := zr_callVN C F hd hn [] st rfl rfl hh hc hR hr8 hf sp
theorem zr_callVN1 (C : zk_C p s m meth c cc nL own nm ret D dA base sz) {idx maxL : Nat} {y : MethodName} {bytes : ByteArray} {rt : Option FieldType} {host : String} (F : zk_LVN own idx y bytes maxL rt 1 host) (hd : decode cc pc = .ok (.invokevirtual idx, 3)) {nx : Nat} (hn : pc + 3 = nx) {a1 : Value} {rm : Room} {i : Nat} {ci : Nat} {fs : List Value} {T : u_T} {N : Nat} (hh : h[i]? = some (.inr (ci, fs))) (hc : vwCl[ci]? = some (y.cls, T, N)) (hR : rm.frames + 1 ≤ R.frames ∧ 8 + (maxL + 11) + rm.locals ≤ R.locals) (hr8 : (st.map fun v => v.category).sum ≤ 8) (hf : kc + rm.cells ≤ R.cells ∧ ks + rm.slots ≤ R.slots) (sp : zk_S l y bytes maxL rt rm (.ref (i + 1) :: [a1]) h (fun r h' => zk_V p l e R s m args below meth c nL D dA b base Q (kc + rm.cells) (ks + rm.slots) nx ll (zk_push r st) h')) : zk_V p l e R s m args below meth c nL D dA b base Q kc ks pc ll (a1 :: .ref (i + 1) :: st) h := zr_callVN C F hd hn [a1] st rfl rfl hh hc hR hr8 hf sp
theorem zr_callVN2 (C : zk_C p s m meth c cc nL own nm ret D dA base sz) {idx maxL : Nat} {y : MethodName} {bytes : ByteArray} {rt : Option FieldType} {host : String} (F : zk_LVN own idx y bytes maxL rt 2 host) (hd : decode cc pc = .ok (.invokevirtual idx, 3)) {nx : Nat} (hn : pc + 3 = nx) {a1 a2 : Value} {rm : Room} {i : Nat} {ci : Nat} {fs : List Value} {T : u_T} {N : Nat} (hh : h[i]? = some (.inr (ci, fs))) (hc : vwCl[ci]? = some (y.cls, T, N)) (hR : rm.frames + 1 ≤ R.frames ∧ 8 + (maxL + 11) + rm.locals ≤ R.locals) (hr8 : (st.map fun v => v.category).sum ≤ 8) (hf : kc + rm.cells ≤ R.cells ∧ ks + rm.slots ≤ R.slots) (sp : zk_S l y bytes maxL rt rm (.ref (i + 1) :: [a1, a2]) h (fun r h' => zk_V p l e R s m args below meth c nL D dA b base Q (kc + rm.cells) (ks + rm.slots) nx ll (zk_push r st) h')) : zk_V p l e R s m args below meth c nL D dA b base Q kc ks pc ll (a2 :: a1 :: .ref (i + 1) :: st) h := zr_callVN C F hd hn [a1, a2] st rfl rfl hh hc hR hr8 hf sp
theorem zr_callVN3 (C : zk_C p s m meth c cc nL own nm ret D dA base sz) {idx maxL : Nat} {y : MethodName} {bytes : ByteArray} {rt : Option FieldType} {host : String} (F : zk_LVN own idx y bytes maxL rt 3 host) (hd : decode cc pc = .ok (.invokevirtual idx, 3)) {nx : Nat} (hn : pc + 3 = nx) {a1 a2 a3 : Value} {rm : Room} {i : Nat} {ci : Nat} {fs : List Value} {T : u_T} {N : Nat} (hh : h[i]? = some (.inr (ci, fs))) (hc : vwCl[ci]? = some (y.cls, T, N)) (hR : rm.frames + 1 ≤ R.frames ∧ 8 + (maxL + 11) + rm.locals ≤ R.locals) (hr8 : (st.map fun v => v.category).sum ≤ 8) (hf : kc + rm.cells ≤ R.cells ∧ ks + rm.slots ≤ R.slots) (sp : zk_S l y bytes maxL rt rm (.ref (i + 1) :: [a1, a2, a3]) h (fun r h' => zk_V p l e R s m args below meth c nL D dA b base Q (kc + rm.cells) (ks + rm.slots) nx ll (zk_push r st) h')) : zk_V p l e R s m args below meth c nL D dA b base Q kc ks pc ll (a3 :: a2 :: a1 :: .ref (i + 1) :: st) h := zr_callVN C F hd hn [a1, a2, a3] st rfl rfl hh hc hR hr8 hf sp
theorem zr_callVN4 (C : zk_C p s m meth c cc nL own nm ret D dA base sz) {idx maxL : Nat} {y : MethodName} {bytes : ByteArray} {rt : Option FieldType} {host : String} (F : zk_LVN own idx y bytes maxL rt 4 host) (hd : decode cc pc = .ok (.invokevirtual idx, 3)) {nx : Nat} (hn : pc + 3 = nx) {a1 a2 a3 a4 : Value} {rm : Room} {i : Nat} {ci : Nat} {fs : List Value} {T : u_T} {N : Nat} (hh : h[i]? = some (.inr (ci, fs))) (hc : vwCl[ci]? = some (y.cls, T, N)) (hR : rm.frames + 1 ≤ R.frames ∧ 8 + (maxL + 11) + rm.locals ≤ R.locals) (hr8 : (st.map fun v => v.category).sum ≤ 8) (hf : kc + rm.cells ≤ R.cells ∧ ks + rm.slots ≤ R.slots) (sp : zk_S l y bytes maxL rt rm (.ref (i + 1) :: [a1, a2, a3, a4]) h (fun r h' => zk_V p l e R s m args below meth c nL D dA b base Q (kc + rm.cells) (ks + rm.slots) nx ll (zk_push r st) h')) : zk_V p l e R s m args below meth c nL D dA b base Q kc ks pc ll (a4 :: a3 :: a2 :: a1 :: .ref (i + 1) :: st) h := zr_callVN C F hd hn [a1, a2, a3, a4] st rfl rfl hh hc hR hr8 hf sp
theorem zr_callVN5 (C : zk_C p s m meth c cc nL own nm ret D dA base sz) {idx maxL : Nat} {y : MethodName} {bytes : ByteArray} {rt : Option FieldType} {host : String} (F : zk_LVN own idx y bytes maxL rt 5 host) (hd : decode cc pc = .ok (.invokevirtual idx, 3)) {nx : Nat} (hn : pc + 3 = nx) {a1 a2 a3 a4 a5 : Value} {rm : Room} {i : Nat} {ci : Nat} {fs : List Value} {T : u_T} {N : Nat} (hh : h[i]? = some (.inr (ci, fs))) (hc : vwCl[ci]? = some (y.cls, T, N)) (hR : rm.frames + 1 ≤ R.frames ∧ 8 + (maxL + 11) + rm.locals ≤ R.locals) (hr8 : (st.map fun v => v.category).sum ≤ 8) (hf : kc + rm.cells ≤ R.cells ∧ ks + rm.slots ≤ R.slots) (sp : zk_S l y bytes maxL rt rm (.ref (i + 1) :: [a1, a2, a3, a4, a5]) h (fun r h' => zk_V p l e R s m args below meth c nL D dA b base Q (kc + rm.cells) (ks + rm.slots) nx ll (zk_push r st) h')) : zk_V p l e R s m args below meth c nL D dA b base Q kc ks pc ll (a5 :: a4 :: a3 :: a2 :: a1 :: .ref (i + 1) :: st) h := zr_callVN C F hd hn [a1, a2, a3, a4, a5] st rfl rfl hh hc hR hr8 hf sp
theorem zr_callVN6 (C : zk_C p s m meth c cc nL own nm ret D dA base sz) {idx maxL : Nat} {y : MethodName} {bytes : ByteArray} {rt : Option FieldType} {host : String} (F : zk_LVN own idx y bytes maxL rt 6 host) (hd : decode cc pc = .ok (.invokevirtual idx, 3)) {nx : Nat} (hn : pc + 3 = nx) {a1 a2 a3 a4 a5 a6 : Value} {rm : Room} {i : Nat} {ci : Nat} {fs : List Value} {T : u_T} {N : Nat} (hh : h[i]? = some (.inr (ci, fs))) (hc : vwCl[ci]? = some (y.cls, T, N)) (hR : rm.frames + 1 ≤ R.frames ∧ 8 + (maxL + 11) + rm.locals ≤ R.locals) (hr8 : (st.map fun v => v.category).sum ≤ 8) (hf : kc + rm.cells ≤ R.cells ∧ ks + rm.slots ≤ R.slots) (sp : zk_S l y bytes maxL rt rm (.ref (i + 1) :: [a1, a2, a3, a4, a5, a6]) h (fun r h' => zk_V p l e R s m args below meth c nL D dA b base Q (kc + rm.cells) (ks + rm.slots) nx ll (zk_push r st) h')) : zk_V p l e R s m args below meth c nL D dA b base Q kc ks pc ll (a6 :: a5 :: a4 :: a3 :: a2 :: a1 :: .ref (i + 1) :: st) h := zr_callVN C F hd hn [a1, a2, a3, a4, a5, a6] st rfl rfl hh hc hR hr8 hf sp
theorem zr_callI0 (C : zk_C p s m meth c cc nL own nm ret D dA base sz) {idx maxL : Nat} {y : MethodName} {bytes : ByteArray} (F : zk_LI own idx y bytes maxL 0) (hd : decode cc pc = .ok (.invokespecial idx, 3)) {nx : Nat} (hn : pc + 3 = nx) {rm : Room} {i : Nat} (hR : rm.frames + 1 ≤ R.frames ∧ 8 + (maxL + 11) + rm.locals ≤ R.locals) (hr8 : (st.map fun v => v.category).sum ≤ 8) (hf : kc + rm.cells ≤ R.cells ∧ ks + rm.slots ≤ R.slots) (sp : zk_S l y bytes maxL none rm (.ref (i + 1) :: []) h (fun r h' => zk_V p l e R s m args below meth c nL D dA b base Q (kc + rm.cells) (ks + rm.slots) nx ll (zk_push r st) h')) : zk_V p l e R s m args below meth c nL D dA b base Q kc ks pc ll (.ref (i + 1) :: st) h := zr_callI C F hd hn [] st rfl rfl hR hr8 hf sp
theorem zr_callI1 (C : zk_C p s m meth c cc nL own nm ret D dA base sz) {idx maxL : Nat} {y : MethodName} {bytes : ByteArray} (F : zk_LI own idx y bytes maxL 1) (hd : decode cc pc = .ok (.invokespecial idx, 3)) {nx : Nat} (hn : pc + 3 = nx) {a1 : Value} {rm : Room} {i : Nat} (hR : rm.frames + 1 ≤ R.frames ∧ 8 + (maxL + 11) + rm.locals ≤ R.locals) (hr8 : (st.map fun v => v.category).sum ≤ 8) (hf : kc + rm.cells ≤ R.cells ∧ ks + rm.slots ≤ R.slots) (sp : zk_S l y bytes maxL none rm (.ref (i + 1) :: [a1]) h (fun r h' => zk_V p l e R s m args below meth c nL D dA b base Q (kc + rm.cells) (ks + rm.slots) nx ll (zk_push r st) h')) : zk_V p l e R s m args below meth c nL D dA b base Q kc ks pc ll (a1 :: .ref (i + 1) :: st) h := zr_callI C F hd hn [a1] st rfl rfl hR hr8 hf sp
theorem zr_callI2 (C : zk_C p s m meth c cc nL own nm ret D dA base sz) {idx maxL : Nat} {y : MethodName} {bytes : ByteArray} (F : zk_LI own idx y bytes maxL 2) (hd : decode cc pc = .ok (.invokespecial idx, 3)) {nx : Nat} (hn : pc + 3 = nx) {a1 a2 : Value} {rm : Room} {i : Nat} (hR : rm.frames + 1 ≤ R.frames ∧ 8 + (maxL + 11) + rm.locals ≤ R.locals) (hr8 : (st.map fun v => v.category).sum ≤ 8) (hf : kc + rm.cells ≤ R.cells ∧ ks + rm.slots ≤ R.slots) (sp : zk_S l y bytes maxL none rm (.ref (i + 1) :: [a1, a2]) h (fun r h' => zk_V p l e R s m args below meth c nL D dA b base Q (kc + rm.cells) (ks + rm.slots) nx ll (zk_push r st) h')) : zk_V p l e R s m args below meth c nL D dA b base Q kc ks pc ll (a2 :: a1 :: .ref (i + 1) :: st) h := zr_callI C F hd hn [a1, a2] st rfl rfl hR hr8 hf sp
theorem zr_callI3 (C : zk_C p s m meth c cc nL own nm ret D dA base sz) {idx maxL : Nat} {y : MethodName} {bytes : ByteArray} (F : zk_LI own idx y bytes maxL 3) (hd : decode cc pc = .ok (.invokespecial idx, 3)) {nx : Nat} (hn : pc + 3 = nx) {a1 a2 a3 : Value} {rm : Room} {i : Nat} (hR : rm.frames + 1 ≤ R.frames ∧ 8 + (maxL + 11) + rm.locals ≤ R.locals) (hr8 : (st.map fun v => v.category).sum ≤ 8) (hf : kc + rm.cells ≤ R.cells ∧ ks + rm.slots ≤ R.slots) (sp : zk_S l y bytes maxL none rm (.ref (i + 1) :: [a1, a2, a3]) h (fun r h' => zk_V p l e R s m args below meth c nL D dA b base Q (kc + rm.cells) (ks + rm.slots) nx ll (zk_push r st) h')) : zk_V p l e R s m args below meth c nL D dA b base Q kc ks pc ll (a3 :: a2 :: a1 :: .ref (i + 1) :: st) h := zr_callI C F hd hn [a1, a2, a3] st rfl rfl hR hr8 hf sp
theorem zr_callI4 (C : zk_C p s m meth c cc nL own nm ret D dA base sz) {idx maxL : Nat} {y : MethodName} {bytes : ByteArray} (F : zk_LI own idx y bytes maxL 4) (hd : decode cc pc = .ok (.invokespecial idx, 3)) {nx : Nat} (hn : pc + 3 = nx) {a1 a2 a3 a4 : Value} {rm : Room} {i : Nat} (hR : rm.frames + 1 ≤ R.frames ∧ 8 + (maxL + 11) + rm.locals ≤ R.locals) (hr8 : (st.map fun v => v.category).sum ≤ 8) (hf : kc + rm.cells ≤ R.cells ∧ ks + rm.slots ≤ R.slots) (sp : zk_S l y bytes maxL none rm (.ref (i + 1) :: [a1, a2, a3, a4]) h (fun r h' => zk_V p l e R s m args below meth c nL D dA b base Q (kc + rm.cells) (ks + rm.slots) nx ll (zk_push r st) h')) : zk_V p l e R s m args below meth c nL D dA b base Q kc ks pc ll (a4 :: a3 :: a2 :: a1 :: .ref (i + 1) :: st) h := zr_callI C F hd hn [a1, a2, a3, a4] st rfl rfl hR hr8 hf sp
theorem zr_callI5 (C : zk_C p s m meth c cc nL own nm ret D dA base sz) {idx maxL : Nat} {y : MethodName} {bytes : ByteArray} (F : zk_LI own idx y bytes maxL 5) (hd : decode cc pc = .ok (.invokespecial idx, 3)) {nx : Nat} (hn : pc + 3 = nx) {a1 a2 a3 a4 a5 : Value} {rm : Room} {i : Nat} (hR : rm.frames + 1 ≤ R.frames ∧ 8 + (maxL + 11) + rm.locals ≤ R.locals) (hr8 : (st.map fun v => v.category).sum ≤ 8) (hf : kc + rm.cells ≤ R.cells ∧ ks + rm.slots ≤ R.slots) (sp : zk_S l y bytes maxL none rm (.ref (i + 1) :: [a1, a2, a3, a4, a5]) h (fun r h' => zk_V p l e R s m args below meth c nL D dA b base Q (kc + rm.cells) (ks + rm.slots) nx ll (zk_push r st) h')) : zk_V p l e R s m args below meth c nL D dA b base Q kc ks pc ll (a5 :: a4 :: a3 :: a2 :: a1 :: .ref (i + 1) :: st) h := zr_callI C F hd hn [a1, a2, a3, a4, a5] st rfl rfl hR hr8 hf sp
theorem zr_callI6 (C : zk_C p s m meth c cc nL own nm ret D dA base sz) {idx maxL : Nat} {y : MethodName} {bytes : ByteArray} (F : zk_LI own idx y bytes maxL 6) (hd : decode cc pc = .ok (.invokespecial idx, 3)) {nx : Nat} (hn : pc + 3 = nx) {a1 a2 a3 a4 a5 a6 : Value} {rm : Room} {i : Nat} (hR : rm.frames + 1 ≤ R.frames ∧ 8 + (maxL + 11) + rm.locals ≤ R.locals) (hr8 : (st.map fun v => v.category).sum ≤ 8) (hf : kc + rm.cells ≤ R.cells ∧ ks + rm.slots ≤ R.slots) (sp : zk_S l y bytes maxL none rm (.ref (i + 1) :: [a1, a2, a3, a4, a5, a6]) h (fun r h' => zk_V p l e R s m args below meth c nL D dA b base Q (kc + rm.cells) (ks + rm.slots) nx ll (zk_push r st) h')) : zk_V p l e R s m args below meth c nL D dA b base Q kc ks pc ll (a6 :: a5 :: a4 :: a3 :: a2 :: a1 :: .ref (i + 1) :: st) h := zr_callI C F hd hn [a1, a2, a3, a4, a5, a6] st rfl rfl hR hr8 hf sp
theorem zr_callIN0 (C : zk_C p s m meth c cc nL own nm ret D dA base sz) {idx maxL : Nat} {y : MethodName} {bytes : ByteArray} {host : String} (F : zk_LIN own idx y bytes maxL 0 host) (hd : decode cc pc = .ok (.invokespecial idx, 3)) {nx : Nat} (hn : pc + 3 = nx) {rm : Room} {i : Nat} (hR : rm.frames + 1 ≤ R.frames ∧ 8 + (maxL + 11) + rm.locals ≤ R.locals) (hr8 : (st.map fun v => v.category).sum ≤ 8) (hf : kc + rm.cells ≤ R.cells ∧ ks + rm.slots ≤ R.slots) (sp : zk_S l y bytes maxL none rm (.ref (i + 1) :: []) h (fun r h' => zk_V p l e R s m args below meth c nL D dA b base Q (kc + rm.cells) (ks + rm.slots) nx ll (zk_push r st) h')) : zk_V p l e R s m args below meth c nL D dA b base Q kc ks pc ll (.ref (i + 1) :: st) h := zr_callIN C F hd hn [] st rfl rfl hR hr8 hf sp
theorem zr_callIN1 (C : zk_C p s m meth c cc nL own nm ret D dA base sz) {idx maxL : Nat} {y : MethodName} {bytes : ByteArray} {host : String} (F : zk_LIN own idx y bytes maxL 1 host) (hd : decode cc pc = .ok (.invokespecial idx, 3)) {nx : Nat} (hn : pc + 3 = nx) {a1 : Value} {rm : Room} {i : Nat} (hR : rm.frames + 1 ≤ R.frames ∧ 8 + (maxL + 11) + rm.locals ≤ R.locals) (hr8 : (st.map fun v => v.category).sum ≤ 8) (hf : kc + rm.cells ≤ R.cells ∧ ks + rm.slots ≤ R.slots) (sp : zk_S l y bytes maxL none rm (.ref (i + 1) :: [a1]) h (fun r h' => zk_V p l e R s m args below meth c nL D dA b base Q (kc + rm.cells) (ks + rm.slots) nx ll (zk_push r st) h')) : zk_V p l e R s m args below meth c nL D dA b base Q kc ks pc ll (a1 :: .ref (i + 1) :: st) h := zr_callIN C F hd hn [a1] st rfl rfl hR hr8 hf sp
theorem zr_callIN2 (C : zk_C p s m meth c cc nL own nm ret D dA base sz) {idx maxL : Nat} {y : MethodName} {bytes : ByteArray} {host : String} (F : zk_LIN own idx y bytes maxL 2 host) (hd : decode cc pc = .ok (.invokespecial idx, 3)) {nx : Nat} (hn : pc + 3 = nx) {a1 a2 : Value} {rm : Room} {i : Nat} (hR : rm.frames + 1 ≤ R.frames ∧ 8 + (maxL + 11) + rm.locals ≤ R.locals) (hr8 : (st.map fun v => v.category).sum ≤ 8) (hf : kc + rm.cells ≤ R.cells ∧ ks + rm.slots ≤ R.slots) (sp : zk_S l y bytes maxL none rm (.ref (i + 1) :: [a1, a2]) h (fun r h' => zk_V p l e R s m args below meth c nL D dA b base Q (kc + rm.cells) (ks + rm.slots) nx ll (zk_push r st) h')) : zk_V p l e R s m args below meth c nL D dA b base Q kc ks pc ll (a2 :: a1 :: .ref (i + 1) :: st) h := zr_callIN C F hd hn [a1, a2] st rfl rfl hR hr8 hf sp
theorem zr_callIN3 (C : zk_C p s m meth c cc nL own nm ret D dA base sz) {idx maxL : Nat} {y : MethodName} {bytes : ByteArray} {host : String} (F : zk_LIN own idx y bytes maxL 3 host) (hd : decode cc pc = .ok (.invokespecial idx, 3)) {nx : Nat} (hn : pc + 3 = nx) {a1 a2 a3 : Value} {rm : Room} {i : Nat} (hR : rm.frames + 1 ≤ R.frames ∧ 8 + (maxL + 11) + rm.locals ≤ R.locals) (hr8 : (st.map fun v => v.category).sum ≤ 8) (hf : kc + rm.cells ≤ R.cells ∧ ks + rm.slots ≤ R.slots) (sp : zk_S l y bytes maxL none rm (.ref (i + 1) :: [a1, a2, a3]) h (fun r h' => zk_V p l e R s m args below meth c nL D dA b base Q (kc + rm.cells) (ks + rm.slots) nx ll (zk_push r st) h')) : zk_V p l e R s m args below meth c nL D dA b base Q kc ks pc ll (a3 :: a2 :: a1 :: .ref (i + 1) :: st) h := zr_callIN C F hd hn [a1, a2, a3] st rfl rfl hR hr8 hf sp
theorem zr_callIN4 (C : zk_C p s m meth c cc nL own nm ret D dA base sz) {idx maxL : Nat} {y : MethodName} {bytes : ByteArray} {host : String} (F : zk_LIN own idx y bytes maxL 4 host) (hd : decode cc pc = .ok (.invokespecial idx, 3)) {nx : Nat} (hn : pc + 3 = nx) {a1 a2 a3 a4 : Value} {rm : Room} {i : Nat} (hR : rm.frames + 1 ≤ R.frames ∧ 8 + (maxL + 11) + rm.locals ≤ R.locals) (hr8 : (st.map fun v => v.category).sum ≤ 8) (hf : kc + rm.cells ≤ R.cells ∧ ks + rm.slots ≤ R.slots) (sp : zk_S l y bytes maxL none rm (.ref (i + 1) :: [a1, a2, a3, a4]) h (fun r h' => zk_V p l e R s m args below meth c nL D dA b base Q (kc + rm.cells) (ks + rm.slots) nx ll (zk_push r st) h')) : zk_V p l e R s m args below meth c nL D dA b base Q kc ks pc ll (a4 :: a3 :: a2 :: a1 :: .ref (i + 1) :: st) h := zr_callIN C F hd hn [a1, a2, a3, a4] st rfl rfl hR hr8 hf sp
theorem zr_callIN5 (C : zk_C p s m meth c cc nL own nm ret D dA base sz) {idx maxL : Nat} {y : MethodName} {bytes : ByteArray} {host : String} (F : zk_LIN own idx y bytes maxL 5 host) (hd : decode cc pc = .ok (.invokespecial idx, 3)) {nx : Nat} (hn : pc + 3 = nx) {a1 a2 a3 a4 a5 : Value} {rm : Room} {i : Nat} (hR : rm.frames + 1 ≤ R.frames ∧ 8 + (maxL + 11) + rm.locals ≤ R.locals) (hr8 : (st.map fun v => v.category).sum ≤ 8) (hf : kc + rm.cells ≤ R.cells ∧ ks + rm.slots ≤ R.slots) (sp : zk_S l y bytes maxL none rm (.ref (i + 1) :: [a1, a2, a3, a4, a5]) h (fun r h' => zk_V p l e R s m args below meth c nL D dA b base Q (kc + rm.cells) (ks + rm.slots) nx ll (zk_push r st) h')) : zk_V p l e R s m args below meth c nL D dA b base Q kc ks pc ll (a5 :: a4 :: a3 :: a2 :: a1 :: .ref (i + 1) :: st) h := zr_callIN C F hd hn [a1, a2, a3, a4, a5] st rfl rfl hR hr8 hf sp
theorem zr_callIN6 (C : zk_C p s m meth c cc nL own nm ret D dA base sz) {idx maxL : Nat} {y : MethodName} {bytes : ByteArray} {host : String} (F : zk_LIN own idx y bytes maxL 6 host) (hd : decode cc pc = .ok (.invokespecial idx, 3)) {nx : Nat} (hn : pc + 3 = nx) {a1 a2 a3 a4 a5 a6 : Value} {rm : Room} {i : Nat} (hR : rm.frames + 1 ≤ R.frames ∧ 8 + (maxL + 11) + rm.locals ≤ R.locals) (hr8 : (st.map fun v => v.category).sum ≤ 8) (hf : kc + rm.cells ≤ R.cells ∧ ks + rm.slots ≤ R.slots) (sp : zk_S l y bytes maxL none rm (.ref (i + 1) :: [a1, a2, a3, a4, a5, a6]) h (fun r h' => zk_V p l e R s m args below meth c nL D dA b base Q (kc + rm.cells) (ks + rm.slots) nx ll (zk_push r st) h')) : zk_V p l e R s m args below meth c nL D dA b base Q kc ks pc ll (a6 :: a5 :: a4 :: a3 :: a2 :: a1 :: .ref (i + 1) :: st) h := zr_callIN C F hd hn [a1, a2, a3, a4, a5, a6] st rfl rfl hR hr8 hf sp
def zk_AC (own : String) (idx : Nat) : Prop := Cond.methodLink own idx arraycopyName ∈ zk_tb ∧ Cond.native arraycopyName ∈ zk_tb ∧ Cond.static arraycopyName ∈ zk_tb ∧ Cond.initialized "java/lang/System" ∈ zk_tb
theorem zr_copyi (C : zk_C p s m meth c cc nL own nm ret D dA base sz) {idx : Nat} (F : zk_AC own idx) (hd : decode cc pc = .ok (.invokestatic idx, 3)) {n : Nat} (hn : pc + 3 = n) {i0 i1 n0 n1 N : Nat} {f g : Nat → Int32} {x : Int32} (hh0 : h[i0]? = some (.inl (0, n0, .inl f))) (hh1 : h[i1]? = some (.inl (0, n1, .inl g))) (h3 : ¬ x < 0) (hN : x.toNatClampNeg = N) (h4 : N ≤ n0) (h5 : N ≤ n1) (hsz : sz + kc = h.length) (hfr : 1 ≤ R.frames) (hlo : (st.map fun v => v.category).sum + (nativeFrameWords "java/lang/System" "arraycopy" 5 + 11) ≤ R.locals) (k : zk_V p l e R s m args below meth c nL D dA b base Q kc ks n ll st (h.set i1 (.inl (0, n1, .inl (va_cpy f g 0 0 N))))) : zk_V p l e R s m args below meth c nL D dA b base Q kc ks pc ll (.int x :: .int 0 :: .ref (i1 + 1) :: .int 0 :: .ref (i0 + 1) :: st) h := by
  subst hn
  subst hN
  obtain ⟨f1, f2, f3, f4⟩ := F
  obtain ⟨hx, hb, hml, hown, hK, hbs, hlk, hret, hnm⟩ := C
  intro H locs ls hl hP hz hS
  have hts := zk_T_at (args := args) hK
  have hS0 : va_S (fun q : Nat => base ≤ q) H H locs := ⟨Nat.le_refl _, fun _ _ _ => rfl, hS.2.2⟩
  refine va_copyi hx hb (by rw [hml]; exact hl.1.symm) hown (hts _ f1) (hts _ f2) (hts _ f3) (hts _ f4) hK.1 hP (zk_w_D dA b base h) hS0 i0 i1 0 0 (ty := .int) (zk_w_get hh0) (zk_w_get hh1) rfl rfl rfl (by decide) (by decide) h3 (by simpa using h4) (by simpa using h5) (fun i _ => rfl) hfr (by rw [zk_sum]; exact hlo) hd (fun H1 locs1 hP1 _ hS1 => ?_)
  intro T hT X
  have hsz1 : H1.size = H.size := by
    have q1 := X.heapSize
    have q2 := hS1.1
    rw [hT] at q1
    omega
  have hP2 : va_P D vwCl (zk_w dA b base (h.set i1 (.inl (0, n1, .inl (va_cpy f g 0 0 x.toNatClampNeg))))) H1 := by rw [← zk_w_set]; exact hP1
  exact k H1 locs1 ls hl hP2 (by rw [hsz1, hz, List.length_set]) ⟨Nat.le_trans hS.1 hS1.1, fun q h1 h2 => by rw [hS1.2.1 q (Nat.lt_of_lt_of_le h1 hS.1) h2]; exact hS.2.1 q h1 h2, hS1.2.2⟩ T hT X
theorem zr_ialdN (C : zk_C p s m meth c cc nL own nm ret D dA base sz) (hd : decode cc pc = .ok (.iaload, 1)) {n : Nat} (hn : pc + 1 = n) {i len j : Nat} {f : Nat → Int32} {x : Int32} (hh : h[i]? = some (.inl (0, len, .inl f))) (hx : x = nI j) (hj : j < len) (hlen : len < 2147483648) (k : zk_V p l e R s m args below meth c nL D dA b base Q kc ks n ll (.int (f j) :: st) h) : zk_V p l e R s m args below meth c nL D dA b base Q kc ks pc ll (.int x :: .ref (i + 1) :: st) h := by
  subst hx
  refine zr_iald C hd hn hh (vp_in_nI hj hlen) ?_
  rw [nI_clamp (Nat.lt_trans hj hlen)]
  exact k
theorem zr_iastN (C : zk_C p s m meth c cc nL own nm ret D dA base sz) (hd : decode cc pc = .ok (.iastore, 1)) {n : Nat} (hn : pc + 1 = n) {i len j : Nat} {f : Nat → Int32} {x y : Int32} (hh : h[i]? = some (.inl (0, len, .inl f))) (hx : x = nI j) (hj : j < len) (hlen : len < 2147483648) (k : zk_V p l e R s m args below meth c nL D dA b base Q kc ks n ll st (h.set i (.inl (0, len, .inl (upd f j y))))) : zk_V p l e R s m args below meth c nL D dA b base Q kc ks pc ll (.int y :: .int x :: .ref (i + 1) :: st) h := by
  subst hx
  refine zr_iast C hd hn hh (vp_in_nI hj hlen) ?_
  rw [nI_clamp (Nat.lt_trans hj hlen)]
  exact k
theorem zr_zaldN (C : zk_C p s m meth c cc nL own nm ret D dA base sz) (hd : decode cc pc = .ok (.baload, 1)) {n : Nat} (hn : pc + 1 = n) {i len j : Nat} {f : Nat → Int32} {x : Int32} (hh : h[i]? = some (.inl (2, len, .inl f))) (hx : x = nI j) (hj : j < len) (hlen : len < 2147483648) (k : zk_V p l e R s m args below meth c nL D dA b base Q kc ks n ll (.int (f j) :: st) h) : zk_V p l e R s m args below meth c nL D dA b base Q kc ks pc ll (.int x :: .ref (i + 1) :: st) h := by
  subst hn
  subst hx
  intro H locs ls hl hP hz hS
  refine va_zald C.1 C.2.1 C.2.2.2.2.1.1 hP i 2 (zk_w_get hh) rfl (vp_in_nI hj hlen) hd ?_
  rw [nI_clamp (Nat.lt_trans hj hlen)]
  exact k H locs ls hl hP hz hS
theorem zr_zastN (C : zk_C p s m meth c cc nL own nm ret D dA base sz) (hd : decode cc pc = .ok (.bastore, 1)) {n : Nat} (hn : pc + 1 = n) {i len j : Nat} {f : Nat → Int32} {x y : Int32} (hh : h[i]? = some (.inl (2, len, .inl f))) (hx : x = nI j) (hj : j < len) (hlen : len < 2147483648) (hy : vp_nar .boolean y = y) (k : zk_V p l e R s m args below meth c nL D dA b base Q kc ks n ll st (h.set i (.inl (2, len, .inl (upd f j y))))) : zk_V p l e R s m args below meth c nL D dA b base Q kc ks pc ll (.int y :: .int x :: .ref (i + 1) :: st) h := by
  subst hn
  subst hx
  intro H locs ls hl hP hz hS
  have hc : (nI j).toNatClampNeg = j := nI_clamp (Nat.lt_trans hj hlen)
  refine W.zast C.1 C.2.1 (hP i _ (zk_w_get hh)) ((C.2.2.2.2.1.1.2 2 _ rfl).1 len (fun j => .int (f j))) (fun q => by cases q) (by show ¬ (nI j < 0 ∨ (arrV _ _ _).slots.size ≤ _); rw [arrV_size]; exact vp_in_nI hj hlen) rfl rfl hd fun H1 e1 z oq => ?_
  have e2 : H1[base + i]? = some ((arrV (dA 2) len (fun j => .int (f j))).setSlot (nI j).toNatClampNeg (narrow .boolean (.int y))) := e1
  rw [arrV_store, hc] at e2
  obtain ⟨g1, g2, g3⟩ := zk_stored (k := (nI j).toNatClampNeg) hP hz hS hh (x := .inl (2, len, .inl (upd f j y))) (by
    show H1[base + i]? = some (arrV (dA 2) len (fun q => .int (upd f j y q)))
    rw [e2]
    congr 2
    funext q
    by_cases hq : q = j
    · subst hq
      have hnv : narrow .boolean (.int y) = .int (vp_nar .boolean y) := by simp [vp_nar, narrow]
      simp [updV, upd, hnv, hy]
    · simp [updV, upd, hq]) z oq
  exact k H1 _ ls hl g1 g2 g3
theorem zr_newz (C : zk_C p s m meth c cc nL own nm ret D dA base sz) (hw : Cond.arrayClass .boolean ∈ zk_tb) (hd : decode cc pc = .ok (.newarray .boolean, 2)) {n : Nat} (hn : pc + 2 = n) {x : Int32} {len : Nat} (h0 : ¬ x < 0) (hlen : x.toNatClampNeg = len) (hbytes : len * 1 ≤ 536870912) (n0 : Nat) (hn0 : h.length = n0) (hcells : kc + 1 ≤ R.cells) (hslots : ks + len ≤ R.slots) (k : zk_V p l e R s m args below meth c nL D dA b base Q (kc + 1) (ks + len) n ll (.ref (n0 + 1) :: st) (h ++ [.inl (2, len, .inl (fun _ => 0))])) : zk_V p l e R s m args below meth c nL D dA b base Q kc ks pc ll (.int x :: st) h := by
  subst hn
  subst hn0
  obtain ⟨hx, hb, hml, hown, hK, hbs, hlk, hret, hnm⟩ := C
  intro H locs ls hl hP hz hS
  have hts := zk_T_at (args := args) hK
  refine va_newaK hx hb (atype := .boolean) (hts _ hw) rfl hd rfl h0 hlen hbytes hcells hslots hz fun H1 cA e1 z1 o1 hAr hNm => ?_
  have hcA : cA = dA 2 := Option.some.inj (hNm.symm.trans (hK.1.2 2 _ rfl).2)
  subst hcA
  obtain ⟨g1, g2, g3⟩ := zk_born hP hz hS (x := .inl (2, len, .inl (fun _ => 0))) (show H1[base + h.length]? = some (arrV (dA 2) len (fun _ => .int 0)) from e1) (by rw [z1, hz]) (fun q hq => o1 q (by rw [← hz]; exact hq))
  exact k H1 _ ls hl g1 g2 g3
theorem zr_sld (C : zk_C p s m meth c cc nL own nm ret D dA base sz) {L : Nat} {xs : Nat → Int32} (hX : va_X b L xs s s.heap) (hbl : b < base) (hd : decode cc pc = .ok (.iaload, 1)) {n : Nat} (hn : pc + 1 = n) {x : Int32} (hin : vp_in x L) (k : zk_V p l e R s m args below meth c nL D dA b base Q kc ks n ll (.int (xs x.toNatClampNeg) :: st) h) : zk_V p l e R s m args below meth c nL D dA b base Q kc ks pc ll (.int x :: .ref 0 :: st) h := by
  subst hn
  exact fun H locs ls hl hP hz hS => va_sld (b := b) C.1 C.2.1 hX (by rw [C.2.2.2.2.2.1]; omega) (Nat.not_le.mpr hbl) hS hin hd (k H locs ls hl hP hz hS)
theorem zr_slen (C : zk_C p s m meth c cc nL own nm ret D dA base sz) {L : Nat} {xs : Nat → Int32} (hX : va_X b L xs s s.heap) (hbl : b < base) (hd : decode cc pc = .ok (.arraylength, 1)) {n : Nat} (hn : pc + 1 = n) (k : zk_V p l e R s m args below meth c nL D dA b base Q kc ks n ll (.int (nI L) :: st) h) : zk_V p l e R s m args below meth c nL D dA b base Q kc ks pc ll (.ref 0 :: st) h := by
  subst hn
  exact fun H locs ls hl hP hz hS => va_slen (b := b) C.1 C.2.1 hX (by rw [C.2.2.2.2.2.1]; omega) (Nat.not_le.mpr hbl) hS hd (k H locs ls hl hP hz hS)
end ZR
end
section
theorem d_A_init_0 : decode b_A_init 0 = .ok (.aload_n 0, 1) := by decide +kernel
theorem d_A_init_1 : decode b_A_init 1 = .ok (.invokespecial 3, 3) := by decide +kernel
theorem d_A_init_4 : decode b_A_init 4 = .ok (.aload_n 0, 1) := by decide +kernel
theorem d_A_init_5 : decode b_A_init 5 = .ok (.new 9, 3) := by decide +kernel
theorem d_A_init_8 : decode b_A_init 8 = .ok (.dup, 1) := by decide +kernel
theorem d_A_init_9 : decode b_A_init 9 = .ok (.invokespecial 11, 3) := by decide +kernel
theorem d_A_init_12 : decode b_A_init 12 = .ok (.putfield 12, 3) := by decide +kernel
theorem d_A_init_15 : decode b_A_init 15 = .ok (.aload_n 0, 1) := by decide +kernel
theorem d_A_init_16 : decode b_A_init 16 = .ok (.new 9, 3) := by decide +kernel
theorem d_A_init_19 : decode b_A_init 19 = .ok (.dup, 1) := by decide +kernel
theorem d_A_init_20 : decode b_A_init 20 = .ok (.invokespecial 11, 3) := by decide +kernel
theorem d_A_init_23 : decode b_A_init 23 = .ok (.putfield 16, 3) := by decide +kernel
theorem d_A_init_26 : decode b_A_init 26 = .ok (.aload_n 0, 1) := by decide +kernel
theorem d_A_init_27 : decode b_A_init 27 = .ok (.bipush 16, 2) := by decide +kernel
theorem d_A_init_29 : decode b_A_init 29 = .ok (.anewarray 19, 3) := by decide +kernel
theorem d_A_init_32 : decode b_A_init 32 = .ok (.putfield 21, 3) := by decide +kernel
theorem d_A_init_35 : decode b_A_init 35 = .ok (.iconst 0, 1) := by decide +kernel
theorem d_A_init_36 : decode b_A_init 36 = .ok (.istore_n 1, 1) := by decide +kernel
theorem d_A_init_37 : decode b_A_init 37 = .ok (.iload_n 1, 1) := by decide +kernel
theorem d_A_init_38 : decode b_A_init 38 = .ok (.bipush 16, 2) := by decide +kernel
theorem d_A_init_40 : decode b_A_init 40 = .ok (.if_icmp .ge 22, 3) := by decide +kernel
theorem d_A_init_43 : decode b_A_init 43 = .ok (.aload_n 0, 1) := by decide +kernel
theorem d_A_init_44 : decode b_A_init 44 = .ok (.getfield 21, 3) := by decide +kernel
theorem d_A_init_47 : decode b_A_init 47 = .ok (.iload_n 1, 1) := by decide +kernel
theorem d_A_init_48 : decode b_A_init 48 = .ok (.new 19, 3) := by decide +kernel
theorem d_A_init_51 : decode b_A_init 51 = .ok (.dup, 1) := by decide +kernel
theorem d_A_init_52 : decode b_A_init 52 = .ok (.invokespecial 25, 3) := by decide +kernel
theorem d_A_init_55 : decode b_A_init 55 = .ok (.aastore, 1) := by decide +kernel
theorem d_A_init_56 : decode b_A_init 56 = .ok (.iinc 1 1, 3) := by decide +kernel
theorem d_A_init_59 : decode b_A_init 59 = .ok (.goto (-22), 3) := by decide +kernel
theorem d_A_init_62 : decode b_A_init 62 = .ok (.aload_n 0, 1) := by decide +kernel
theorem d_A_init_63 : decode b_A_init 63 = .ok (.iconst 0, 1) := by decide +kernel
theorem d_A_init_64 : decode b_A_init 64 = .ok (.putfield 26, 3) := by decide +kernel
theorem d_A_init_67 : decode b_A_init 67 = .ok (.aload_n 0, 1) := by decide +kernel
theorem d_A_init_68 : decode b_A_init 68 = .ok (.new 30, 3) := by decide +kernel
theorem d_A_init_71 : decode b_A_init 71 = .ok (.dup, 1) := by decide +kernel
theorem d_A_init_72 : decode b_A_init 72 = .ok (.invokespecial 32, 3) := by decide +kernel
theorem d_A_init_75 : decode b_A_init 75 = .ok (.putfield 33, 3) := by decide +kernel
theorem d_A_init_78 : decode b_A_init 78 = .ok (.aload_n 0, 1) := by decide +kernel
theorem d_A_init_79 : decode b_A_init 79 = .ok (.new 30, 3) := by decide +kernel
theorem d_A_init_82 : decode b_A_init 82 = .ok (.dup, 1) := by decide +kernel
theorem d_A_init_83 : decode b_A_init 83 = .ok (.invokespecial 32, 3) := by decide +kernel
theorem d_A_init_86 : decode b_A_init 86 = .ok (.putfield 37, 3) := by decide +kernel
theorem d_A_init_89 : decode b_A_init 89 = .ok (.return_, 1) := by decide +kernel
theorem d_A_type_0 : decode b_A_type 0 = .ok (.iload_n 1, 1) := by decide +kernel
theorem d_A_type_1 : decode b_A_type 1 = .ok (.iconst 2, 1) := by decide +kernel
theorem d_A_type_2 : decode b_A_type 2 = .ok (.invokestatic 40, 3) := by decide +kernel
theorem d_A_type_5 : decode b_A_type 5 = .ok (.ifCond .eq 21, 3) := by decide +kernel
theorem d_A_type_8 : decode b_A_type 8 = .ok (.iload_n 2, 1) := by decide +kernel
theorem d_A_type_9 : decode b_A_type 9 = .ok (.bipush 6, 2) := by decide +kernel
theorem d_A_type_11 : decode b_A_type 11 = .ok (.invokestatic 40, 3) := by decide +kernel
theorem d_A_type_14 : decode b_A_type 14 = .ok (.ifCond .eq 12, 3) := by decide +kernel
theorem d_A_type_17 : decode b_A_type 17 = .ok (.iload_n 3, 1) := by decide +kernel
theorem d_A_type_18 : decode b_A_type 18 = .ok (.bipush 16, 2) := by decide +kernel
theorem d_A_type_20 : decode b_A_type 20 = .ok (.invokestatic 40, 3) := by decide +kernel
theorem d_A_type_23 : decode b_A_type 23 = .ok (.ifCond .ne 5, 3) := by decide +kernel
theorem d_A_type_26 : decode b_A_type 26 = .ok (.iconst (-1), 1) := by decide +kernel
theorem d_A_type_27 : decode b_A_type 27 = .ok (.ireturn, 1) := by decide +kernel
theorem d_A_type_28 : decode b_A_type 28 = .ok (.iload 4, 2) := by decide +kernel
theorem d_A_type_30 : decode b_A_type 30 = .ok (.bipush 7, 2) := by decide +kernel
theorem d_A_type_32 : decode b_A_type 32 = .ok (.invokestatic 40, 3) := by decide +kernel
theorem d_A_type_35 : decode b_A_type 35 = .ok (.ifCond .eq 13, 3) := by decide +kernel
theorem d_A_type_38 : decode b_A_type 38 = .ok (.iload 5, 2) := by decide +kernel
theorem d_A_type_40 : decode b_A_type 40 = .ok (.bipush 64, 2) := by decide +kernel
theorem d_A_type_42 : decode b_A_type 42 = .ok (.invokestatic 40, 3) := by decide +kernel
theorem d_A_type_45 : decode b_A_type 45 = .ok (.ifCond .ne 5, 3) := by decide +kernel
theorem d_A_type_48 : decode b_A_type 48 = .ok (.iconst (-1), 1) := by decide +kernel
theorem d_A_type_49 : decode b_A_type 49 = .ok (.ireturn, 1) := by decide +kernel
theorem d_A_type_50 : decode b_A_type 50 = .ok (.aload_n 0, 1) := by decide +kernel
theorem d_A_type_51 : decode b_A_type 51 = .ok (.iload_n 1, 1) := by decide +kernel
theorem d_A_type_52 : decode b_A_type 52 = .ok (.invokevirtual 44, 3) := by decide +kernel
theorem d_A_type_55 : decode b_A_type 55 = .ok (.astore 6, 2) := by decide +kernel
theorem d_A_type_57 : decode b_A_type 57 = .ok (.iload_n 3, 1) := by decide +kernel
theorem d_A_type_58 : decode b_A_type 58 = .ok (.iconst 1, 1) := by decide +kernel
theorem d_A_type_59 : decode b_A_type 59 = .ok (.iand, 1) := by decide +kernel
theorem d_A_type_60 : decode b_A_type 60 = .ok (.ifCond .eq 7, 3) := by decide +kernel
theorem d_A_type_63 : decode b_A_type 63 = .ok (.iconst 1, 1) := by decide +kernel
theorem d_A_type_64 : decode b_A_type 64 = .ok (.goto 4, 3) := by decide +kernel
theorem d_A_type_67 : decode b_A_type 67 = .ok (.iconst 0, 1) := by decide +kernel
theorem d_A_type_68 : decode b_A_type 68 = .ok (.istore 7, 2) := by decide +kernel
theorem d_A_type_70 : decode b_A_type 70 = .ok (.iload 7, 2) := by decide +kernel
theorem d_A_type_72 : decode b_A_type 72 = .ok (.ifCond .eq 18, 3) := by decide +kernel
theorem d_A_type_75 : decode b_A_type 75 = .ok (.iload_n 3, 1) := by decide +kernel
theorem d_A_type_76 : decode b_A_type 76 = .ok (.iconst 4, 1) := by decide +kernel
theorem d_A_type_77 : decode b_A_type 77 = .ok (.iand, 1) := by decide +kernel
theorem d_A_type_78 : decode b_A_type 78 = .ok (.ifCond .ne 10, 3) := by decide +kernel
theorem d_A_type_81 : decode b_A_type 81 = .ok (.iload 4, 2) := by decide +kernel
theorem d_A_type_83 : decode b_A_type 83 = .ok (.bipush 6, 2) := by decide +kernel
theorem d_A_type_85 : decode b_A_type 85 = .ok (.if_icmp .eq 5, 3) := by decide +kernel
theorem d_A_type_88 : decode b_A_type 88 = .ok (.iconst (-1), 1) := by decide +kernel
theorem d_A_type_89 : decode b_A_type 89 = .ok (.ireturn, 1) := by decide +kernel
theorem d_A_type_90 : decode b_A_type 90 = .ok (.aload 6, 2) := by decide +kernel
theorem d_A_type_92 : decode b_A_type 92 = .ok (.iload_n 2, 1) := by decide +kernel
theorem d_A_type_93 : decode b_A_type 93 = .ok (.iload 4, 2) := by decide +kernel
theorem d_A_type_95 : decode b_A_type 95 = .ok (.iload 5, 2) := by decide +kernel
theorem d_A_type_97 : decode b_A_type 97 = .ok (.invokevirtual 48, 3) := by decide +kernel
theorem d_A_type_100 : decode b_A_type 100 = .ok (.ifCond .ne 5, 3) := by decide +kernel
theorem d_A_type_103 : decode b_A_type 103 = .ok (.iconst (-1), 1) := by decide +kernel
theorem d_A_type_104 : decode b_A_type 104 = .ok (.ireturn, 1) := by decide +kernel
theorem d_A_type_105 : decode b_A_type 105 = .ok (.aload 6, 2) := by decide +kernel
theorem d_A_type_107 : decode b_A_type 107 = .ok (.iload_n 2, 1) := by decide +kernel
theorem d_A_type_108 : decode b_A_type 108 = .ok (.invokevirtual 52, 3) := by decide +kernel
theorem d_A_type_111 : decode b_A_type 111 = .ok (.ifCond .eq 25, 3) := by decide +kernel
theorem d_A_type_114 : decode b_A_type 114 = .ok (.aload 6, 2) := by decide +kernel
theorem d_A_type_116 : decode b_A_type 116 = .ok (.iload_n 2, 1) := by decide +kernel
theorem d_A_type_117 : decode b_A_type 117 = .ok (.invokevirtual 56, 3) := by decide +kernel
theorem d_A_type_120 : decode b_A_type 120 = .ok (.iload 7, 2) := by decide +kernel
theorem d_A_type_122 : decode b_A_type 122 = .ok (.if_icmp .eq 14, 3) := by decide +kernel
theorem d_A_type_125 : decode b_A_type 125 = .ok (.aload 6, 2) := by decide +kernel
theorem d_A_type_127 : decode b_A_type 127 = .ok (.iload_n 2, 1) := by decide +kernel
theorem d_A_type_128 : decode b_A_type 128 = .ok (.invokevirtual 59, 3) := by decide +kernel
theorem d_A_type_131 : decode b_A_type 131 = .ok (.ifCond .eq 5, 3) := by decide +kernel
theorem d_A_type_134 : decode b_A_type 134 = .ok (.iconst (-1), 1) := by decide +kernel
theorem d_A_type_135 : decode b_A_type 135 = .ok (.ireturn, 1) := by decide +kernel
theorem d_A_type_136 : decode b_A_type 136 = .ok (.aload 6, 2) := by decide +kernel
theorem d_A_type_138 : decode b_A_type 138 = .ok (.iload_n 2, 1) := by decide +kernel
theorem d_A_type_139 : decode b_A_type 139 = .ok (.iload_n 3, 1) := by decide +kernel
theorem d_A_type_140 : decode b_A_type 140 = .ok (.iload 4, 2) := by decide +kernel
theorem d_A_type_142 : decode b_A_type 142 = .ok (.iload 5, 2) := by decide +kernel
theorem d_A_type_144 : decode b_A_type 144 = .ok (.invokevirtual 62, 3) := by decide +kernel
theorem d_A_type_147 : decode b_A_type 147 = .ok (.iconst 0, 1) := by decide +kernel
theorem d_A_type_148 : decode b_A_type 148 = .ok (.ireturn, 1) := by decide +kernel
theorem d_A_drop_0 : decode b_A_drop 0 = .ok (.aload_n 0, 1) := by decide +kernel
theorem d_A_drop_1 : decode b_A_drop 1 = .ok (.iload_n 1, 1) := by decide +kernel
theorem d_A_drop_2 : decode b_A_drop 2 = .ok (.iload_n 2, 1) := by decide +kernel
theorem d_A_drop_3 : decode b_A_drop 3 = .ok (.invokevirtual 66, 3) := by decide +kernel
theorem d_A_drop_6 : decode b_A_drop 6 = .ok (.ifCond .eq 15, 3) := by decide +kernel
theorem d_A_drop_9 : decode b_A_drop 9 = .ok (.aload_n 0, 1) := by decide +kernel
theorem d_A_drop_10 : decode b_A_drop 10 = .ok (.iload_n 1, 1) := by decide +kernel
theorem d_A_drop_11 : decode b_A_drop 11 = .ok (.invokevirtual 44, 3) := by decide +kernel
theorem d_A_drop_14 : decode b_A_drop 14 = .ok (.iload_n 2, 1) := by decide +kernel
theorem d_A_drop_15 : decode b_A_drop 15 = .ok (.invokevirtual 59, 3) := by decide +kernel
theorem d_A_drop_18 : decode b_A_drop 18 = .ok (.ifCond .eq 5, 3) := by decide +kernel
theorem d_A_drop_21 : decode b_A_drop 21 = .ok (.iconst (-1), 1) := by decide +kernel
theorem d_A_drop_22 : decode b_A_drop 22 = .ok (.ireturn, 1) := by decide +kernel
theorem d_A_drop_23 : decode b_A_drop 23 = .ok (.aload_n 0, 1) := by decide +kernel
theorem d_A_drop_24 : decode b_A_drop 24 = .ok (.iload_n 1, 1) := by decide +kernel
theorem d_A_drop_25 : decode b_A_drop 25 = .ok (.invokevirtual 44, 3) := by decide +kernel
theorem d_A_drop_28 : decode b_A_drop 28 = .ok (.iload_n 2, 1) := by decide +kernel
theorem d_A_drop_29 : decode b_A_drop 29 = .ok (.invokevirtual 69, 3) := by decide +kernel
theorem d_A_drop_32 : decode b_A_drop 32 = .ok (.iconst 0, 1) := by decide +kernel
theorem d_A_drop_33 : decode b_A_drop 33 = .ok (.ireturn, 1) := by decide +kernel
theorem d_A_field_0 : decode b_A_field 0 = .ok (.iload_n 1, 1) := by decide +kernel
theorem d_A_field_1 : decode b_A_field 1 = .ok (.bipush 24, 2) := by decide +kernel
theorem d_A_field_3 : decode b_A_field 3 = .ok (.invokestatic 40, 3) := by decide +kernel
theorem d_A_field_6 : decode b_A_field 6 = .ok (.ifCond .eq 18, 3) := by decide +kernel
theorem d_A_field_9 : decode b_A_field 9 = .ok (.iload_n 2, 1) := by decide +kernel
theorem d_A_field_10 : decode b_A_field 10 = .ok (.iconst 4, 1) := by decide +kernel
theorem d_A_field_11 : decode b_A_field 11 = .ok (.invokestatic 40, 3) := by decide +kernel
theorem d_A_field_14 : decode b_A_field 14 = .ok (.ifCond .eq 10, 3) := by decide +kernel
theorem d_A_field_17 : decode b_A_field 17 = .ok (.iload_n 3, 1) := by decide +kernel
theorem d_A_field_18 : decode b_A_field 18 = .ok (.invokestatic 73, 3) := by decide +kernel
theorem d_A_field_21 : decode b_A_field 21 = .ok (.ifCond .ne 5, 3) := by decide +kernel
theorem d_A_field_24 : decode b_A_field 24 = .ok (.iconst (-1), 1) := by decide +kernel
theorem d_A_field_25 : decode b_A_field 25 = .ok (.ireturn, 1) := by decide +kernel
theorem d_A_field_26 : decode b_A_field 26 = .ok (.aload_n 0, 1) := by decide +kernel
theorem d_A_field_27 : decode b_A_field 27 = .ok (.iload_n 1, 1) := by decide +kernel
theorem d_A_field_28 : decode b_A_field 28 = .ok (.bipush 12, 2) := by decide +kernel
theorem d_A_field_30 : decode b_A_field 30 = .ok (.idiv, 1) := by decide +kernel
theorem d_A_field_31 : decode b_A_field 31 = .ok (.invokevirtual 44, 3) := by decide +kernel
theorem d_A_field_34 : decode b_A_field 34 = .ok (.astore 5, 2) := by decide +kernel
theorem d_A_field_36 : decode b_A_field 36 = .ok (.iload_n 1, 1) := by decide +kernel
theorem d_A_field_37 : decode b_A_field 37 = .ok (.iconst 2, 1) := by decide +kernel
theorem d_A_field_38 : decode b_A_field 38 = .ok (.idiv, 1) := by decide +kernel
theorem d_A_field_39 : decode b_A_field 39 = .ok (.bipush 6, 2) := by decide +kernel
theorem d_A_field_41 : decode b_A_field 41 = .ok (.irem, 1) := by decide +kernel
theorem d_A_field_42 : decode b_A_field 42 = .ok (.istore 6, 2) := by decide +kernel
theorem d_A_field_44 : decode b_A_field 44 = .ok (.aload 5, 2) := by decide +kernel
theorem d_A_field_46 : decode b_A_field 46 = .ok (.iload 6, 2) := by decide +kernel
theorem d_A_field_48 : decode b_A_field 48 = .ok (.invokevirtual 52, 3) := by decide +kernel
theorem d_A_field_51 : decode b_A_field 51 = .ok (.ifCond .ne 5, 3) := by decide +kernel
theorem d_A_field_54 : decode b_A_field 54 = .ok (.iconst (-1), 1) := by decide +kernel
theorem d_A_field_55 : decode b_A_field 55 = .ok (.ireturn, 1) := by decide +kernel
theorem d_A_field_56 : decode b_A_field 56 = .ok (.aload 5, 2) := by decide +kernel
theorem d_A_field_58 : decode b_A_field 58 = .ok (.iload 6, 2) := by decide +kernel
theorem d_A_field_60 : decode b_A_field 60 = .ok (.iconst 4, 1) := by decide +kernel
theorem d_A_field_61 : decode b_A_field 61 = .ok (.imul, 1) := by decide +kernel
theorem d_A_field_62 : decode b_A_field 62 = .ok (.iload_n 2, 1) := by decide +kernel
theorem d_A_field_63 : decode b_A_field 63 = .ok (.iadd, 1) := by decide +kernel
theorem d_A_field_64 : decode b_A_field 64 = .ok (.iload_n 1, 1) := by decide +kernel
theorem d_A_field_65 : decode b_A_field 65 = .ok (.iconst 2, 1) := by decide +kernel
theorem d_A_field_66 : decode b_A_field 66 = .ok (.irem, 1) := by decide +kernel
theorem d_A_field_67 : decode b_A_field 67 = .ok (.iload_n 3, 1) := by decide +kernel
theorem d_A_field_68 : decode b_A_field 68 = .ok (.iload 4, 2) := by decide +kernel
theorem d_A_field_70 : decode b_A_field 70 = .ok (.invokevirtual 76, 3) := by decide +kernel
theorem d_A_field_73 : decode b_A_field 73 = .ok (.iconst 0, 1) := by decide +kernel
theorem d_A_field_74 : decode b_A_field 74 = .ok (.ireturn, 1) := by decide +kernel
theorem d_A_method_0 : decode b_A_method 0 = .ok (.iload_n 1, 1) := by decide +kernel
theorem d_A_method_1 : decode b_A_method 1 = .ok (.bipush 12, 2) := by decide +kernel
theorem d_A_method_3 : decode b_A_method 3 = .ok (.invokestatic 40, 3) := by decide +kernel
theorem d_A_method_6 : decode b_A_method 6 = .ok (.ifCond .eq 11, 3) := by decide +kernel
theorem d_A_method_9 : decode b_A_method 9 = .ok (.iload_n 2, 1) := by decide +kernel
theorem d_A_method_10 : decode b_A_method 10 = .ok (.iconst 3, 1) := by decide +kernel
theorem d_A_method_11 : decode b_A_method 11 = .ok (.invokestatic 40, 3) := by decide +kernel
theorem d_A_method_14 : decode b_A_method 14 = .ok (.ifCond .ne 5, 3) := by decide +kernel
theorem d_A_method_17 : decode b_A_method 17 = .ok (.iconst (-1), 1) := by decide +kernel
theorem d_A_method_18 : decode b_A_method 18 = .ok (.ireturn, 1) := by decide +kernel
theorem d_A_method_19 : decode b_A_method 19 = .ok (.iload_n 3, 1) := by decide +kernel
theorem d_A_method_20 : decode b_A_method 20 = .ok (.bipush 16, 2) := by decide +kernel
theorem d_A_method_22 : decode b_A_method 22 = .ok (.invokestatic 40, 3) := by decide +kernel
theorem d_A_method_25 : decode b_A_method 25 = .ok (.ifCond .eq 11, 3) := by decide +kernel
theorem d_A_method_28 : decode b_A_method 28 = .ok (.iload 4, 2) := by decide +kernel
theorem d_A_method_30 : decode b_A_method 30 = .ok (.invokestatic 79, 3) := by decide +kernel
theorem d_A_method_33 : decode b_A_method 33 = .ok (.ifCond .ne 5, 3) := by decide +kernel
theorem d_A_method_36 : decode b_A_method 36 = .ok (.iconst (-1), 1) := by decide +kernel
theorem d_A_method_37 : decode b_A_method 37 = .ok (.ireturn, 1) := by decide +kernel
theorem d_A_method_38 : decode b_A_method 38 = .ok (.aload_n 0, 1) := by decide +kernel
theorem d_A_method_39 : decode b_A_method 39 = .ok (.iload_n 1, 1) := by decide +kernel
theorem d_A_method_40 : decode b_A_method 40 = .ok (.bipush 6, 2) := by decide +kernel
theorem d_A_method_42 : decode b_A_method 42 = .ok (.idiv, 1) := by decide +kernel
theorem d_A_method_43 : decode b_A_method 43 = .ok (.invokevirtual 44, 3) := by decide +kernel
theorem d_A_method_46 : decode b_A_method 46 = .ok (.astore 5, 2) := by decide +kernel
theorem d_A_method_48 : decode b_A_method 48 = .ok (.iload_n 1, 1) := by decide +kernel
theorem d_A_method_49 : decode b_A_method 49 = .ok (.bipush 6, 2) := by decide +kernel
theorem d_A_method_51 : decode b_A_method 51 = .ok (.irem, 1) := by decide +kernel
theorem d_A_method_52 : decode b_A_method 52 = .ok (.istore 6, 2) := by decide +kernel
theorem d_A_method_54 : decode b_A_method 54 = .ok (.aload 5, 2) := by decide +kernel
theorem d_A_method_56 : decode b_A_method 56 = .ok (.iload 6, 2) := by decide +kernel
theorem d_A_method_58 : decode b_A_method 58 = .ok (.invokevirtual 52, 3) := by decide +kernel
theorem d_A_method_61 : decode b_A_method 61 = .ok (.ifCond .ne 5, 3) := by decide +kernel
theorem d_A_method_64 : decode b_A_method 64 = .ok (.iconst (-1), 1) := by decide +kernel
theorem d_A_method_65 : decode b_A_method 65 = .ok (.ireturn, 1) := by decide +kernel
theorem d_A_method_66 : decode b_A_method 66 = .ok (.aload 5, 2) := by decide +kernel
theorem d_A_method_68 : decode b_A_method 68 = .ok (.iload 6, 2) := by decide +kernel
theorem d_A_method_70 : decode b_A_method 70 = .ok (.iload_n 2, 1) := by decide +kernel
theorem d_A_method_71 : decode b_A_method 71 = .ok (.iload_n 3, 1) := by decide +kernel
theorem d_A_method_72 : decode b_A_method 72 = .ok (.iconst 4, 1) := by decide +kernel
theorem d_A_method_73 : decode b_A_method 73 = .ok (.idiv, 1) := by decide +kernel
theorem d_A_method_74 : decode b_A_method 74 = .ok (.invokestatic 82, 3) := by decide +kernel
theorem d_A_method_77 : decode b_A_method 77 = .ok (.iload_n 3, 1) := by decide +kernel
theorem d_A_method_78 : decode b_A_method 78 = .ok (.iconst 4, 1) := by decide +kernel
theorem d_A_method_79 : decode b_A_method 79 = .ok (.irem, 1) := by decide +kernel
theorem d_A_method_80 : decode b_A_method 80 = .ok (.iload 4, 2) := by decide +kernel
theorem d_A_method_82 : decode b_A_method 82 = .ok (.invokevirtual 86, 3) := by decide +kernel
theorem d_A_method_85 : decode b_A_method 85 = .ok (.iconst 0, 1) := by decide +kernel
theorem d_A_method_86 : decode b_A_method 86 = .ok (.ireturn, 1) := by decide +kernel
theorem d_A_cut_0 : decode b_A_cut 0 = .ok (.aload_n 0, 1) := by decide +kernel
theorem d_A_cut_1 : decode b_A_cut 1 = .ok (.iload_n 1, 1) := by decide +kernel
theorem d_A_cut_2 : decode b_A_cut 2 = .ok (.iload_n 2, 1) := by decide +kernel
theorem d_A_cut_3 : decode b_A_cut 3 = .ok (.invokevirtual 66, 3) := by decide +kernel
theorem d_A_cut_6 : decode b_A_cut 6 = .ok (.ifCond .ne 5, 3) := by decide +kernel
theorem d_A_cut_9 : decode b_A_cut 9 = .ok (.iconst (-1), 1) := by decide +kernel
theorem d_A_cut_10 : decode b_A_cut 10 = .ok (.ireturn, 1) := by decide +kernel
theorem d_A_cut_11 : decode b_A_cut 11 = .ok (.iload 4, 2) := by decide +kernel
theorem d_A_cut_13 : decode b_A_cut 13 = .ok (.iconst 4, 1) := by decide +kernel
theorem d_A_cut_14 : decode b_A_cut 14 = .ok (.if_icmp .ne 35, 3) := by decide +kernel
theorem d_A_cut_17 : decode b_A_cut 17 = .ok (.iload_n 3, 1) := by decide +kernel
theorem d_A_cut_18 : decode b_A_cut 18 = .ok (.iconst 4, 1) := by decide +kernel
theorem d_A_cut_19 : decode b_A_cut 19 = .ok (.invokestatic 40, 3) := by decide +kernel
theorem d_A_cut_22 : decode b_A_cut 22 = .ok (.ifCond .ne 5, 3) := by decide +kernel
theorem d_A_cut_25 : decode b_A_cut 25 = .ok (.iconst (-1), 1) := by decide +kernel
theorem d_A_cut_26 : decode b_A_cut 26 = .ok (.ireturn, 1) := by decide +kernel
theorem d_A_cut_27 : decode b_A_cut 27 = .ok (.aload_n 0, 1) := by decide +kernel
theorem d_A_cut_28 : decode b_A_cut 28 = .ok (.iload_n 1, 1) := by decide +kernel
theorem d_A_cut_29 : decode b_A_cut 29 = .ok (.invokevirtual 44, 3) := by decide +kernel
theorem d_A_cut_32 : decode b_A_cut 32 = .ok (.iload_n 2, 1) := by decide +kernel
theorem d_A_cut_33 : decode b_A_cut 33 = .ok (.iconst 4, 1) := by decide +kernel
theorem d_A_cut_34 : decode b_A_cut 34 = .ok (.imul, 1) := by decide +kernel
theorem d_A_cut_35 : decode b_A_cut 35 = .ok (.iload_n 3, 1) := by decide +kernel
theorem d_A_cut_36 : decode b_A_cut 36 = .ok (.iadd, 1) := by decide +kernel
theorem d_A_cut_37 : decode b_A_cut 37 = .ok (.invokevirtual 90, 3) := by decide +kernel
theorem d_A_cut_40 : decode b_A_cut 40 = .ok (.ifCond .eq 7, 3) := by decide +kernel
theorem d_A_cut_43 : decode b_A_cut 43 = .ok (.iconst 0, 1) := by decide +kernel
theorem d_A_cut_44 : decode b_A_cut 44 = .ok (.goto 4, 3) := by decide +kernel
theorem d_A_cut_47 : decode b_A_cut 47 = .ok (.iconst (-1), 1) := by decide +kernel
theorem d_A_cut_48 : decode b_A_cut 48 = .ok (.ireturn, 1) := by decide +kernel
theorem d_A_cut_49 : decode b_A_cut 49 = .ok (.iload_n 3, 1) := by decide +kernel
theorem d_A_cut_50 : decode b_A_cut 50 = .ok (.iconst 3, 1) := by decide +kernel
theorem d_A_cut_51 : decode b_A_cut 51 = .ok (.invokestatic 40, 3) := by decide +kernel
theorem d_A_cut_54 : decode b_A_cut 54 = .ok (.ifCond .eq 12, 3) := by decide +kernel
theorem d_A_cut_57 : decode b_A_cut 57 = .ok (.iload 4, 2) := by decide +kernel
theorem d_A_cut_59 : decode b_A_cut 59 = .ok (.iconst 4, 1) := by decide +kernel
theorem d_A_cut_60 : decode b_A_cut 60 = .ok (.invokestatic 40, 3) := by decide +kernel
theorem d_A_cut_63 : decode b_A_cut 63 = .ok (.ifCond .ne 5, 3) := by decide +kernel
theorem d_A_cut_66 : decode b_A_cut 66 = .ok (.iconst (-1), 1) := by decide +kernel
theorem d_A_cut_67 : decode b_A_cut 67 = .ok (.ireturn, 1) := by decide +kernel
theorem d_A_cut_68 : decode b_A_cut 68 = .ok (.aload_n 0, 1) := by decide +kernel
theorem d_A_cut_69 : decode b_A_cut 69 = .ok (.iload_n 1, 1) := by decide +kernel
theorem d_A_cut_70 : decode b_A_cut 70 = .ok (.invokevirtual 44, 3) := by decide +kernel
theorem d_A_cut_73 : decode b_A_cut 73 = .ok (.iload_n 2, 1) := by decide +kernel
theorem d_A_cut_74 : decode b_A_cut 74 = .ok (.iload_n 3, 1) := by decide +kernel
theorem d_A_cut_75 : decode b_A_cut 75 = .ok (.iload 4, 2) := by decide +kernel
theorem d_A_cut_77 : decode b_A_cut 77 = .ok (.invokestatic 82, 3) := by decide +kernel
theorem d_A_cut_80 : decode b_A_cut 80 = .ok (.invokevirtual 93, 3) := by decide +kernel
theorem d_A_cut_83 : decode b_A_cut 83 = .ok (.ifCond .eq 7, 3) := by decide +kernel
theorem d_A_cut_86 : decode b_A_cut 86 = .ok (.iconst 0, 1) := by decide +kernel
theorem d_A_cut_87 : decode b_A_cut 87 = .ok (.goto 4, 3) := by decide +kernel
theorem d_A_cut_90 : decode b_A_cut 90 = .ok (.iconst (-1), 1) := by decide +kernel
theorem d_A_cut_91 : decode b_A_cut 91 = .ok (.ireturn, 1) := by decide +kernel
theorem d_A_copy_0 : decode b_A_copy 0 = .ok (.aload_n 0, 1) := by decide +kernel
theorem d_A_copy_1 : decode b_A_copy 1 = .ok (.getfield 16, 3) := by decide +kernel
theorem d_A_copy_4 : decode b_A_copy 4 = .ok (.aload_n 0, 1) := by decide +kernel
theorem d_A_copy_5 : decode b_A_copy 5 = .ok (.getfield 12, 3) := by decide +kernel
theorem d_A_copy_8 : decode b_A_copy 8 = .ok (.invokevirtual 96, 3) := by decide +kernel
theorem d_A_copy_11 : decode b_A_copy 11 = .ok (.iconst 0, 1) := by decide +kernel
theorem d_A_copy_12 : decode b_A_copy 12 = .ok (.ireturn, 1) := by decide +kernel
theorem d_A_use_0 : decode b_A_use 0 = .ok (.iload_n 1, 1) := by decide +kernel
theorem d_A_use_1 : decode b_A_use 1 = .ok (.bipush 7, 2) := by decide +kernel
theorem d_A_use_3 : decode b_A_use 3 = .ok (.invokestatic 40, 3) := by decide +kernel
theorem d_A_use_6 : decode b_A_use 6 = .ok (.ifCond .eq 12, 3) := by decide +kernel
theorem d_A_use_9 : decode b_A_use 9 = .ok (.iload_n 2, 1) := by decide +kernel
theorem d_A_use_10 : decode b_A_use 10 = .ok (.bipush 6, 2) := by decide +kernel
theorem d_A_use_12 : decode b_A_use 12 = .ok (.invokestatic 40, 3) := by decide +kernel
theorem d_A_use_15 : decode b_A_use 15 = .ok (.ifCond .ne 5, 3) := by decide +kernel
theorem d_A_use_18 : decode b_A_use 18 = .ok (.iconst (-1), 1) := by decide +kernel
theorem d_A_use_19 : decode b_A_use 19 = .ok (.ireturn, 1) := by decide +kernel
theorem d_A_use_20 : decode b_A_use 20 = .ok (.iload_n 1, 1) := by decide +kernel
theorem d_A_use_21 : decode b_A_use 21 = .ok (.iconst 2, 1) := by decide +kernel
theorem d_A_use_22 : decode b_A_use 22 = .ok (.if_icmp .eq 14, 3) := by decide +kernel
theorem d_A_use_25 : decode b_A_use 25 = .ok (.iload_n 1, 1) := by decide +kernel
theorem d_A_use_26 : decode b_A_use 26 = .ok (.iconst 3, 1) := by decide +kernel
theorem d_A_use_27 : decode b_A_use 27 = .ok (.if_icmp .eq 9, 3) := by decide +kernel
theorem d_A_use_30 : decode b_A_use 30 = .ok (.iload_n 1, 1) := by decide +kernel
theorem d_A_use_31 : decode b_A_use 31 = .ok (.bipush 6, 2) := by decide +kernel
theorem d_A_use_33 : decode b_A_use 33 = .ok (.if_icmp .ne 7, 3) := by decide +kernel
theorem d_A_use_36 : decode b_A_use 36 = .ok (.iconst 1, 1) := by decide +kernel
theorem d_A_use_37 : decode b_A_use 37 = .ok (.goto 4, 3) := by decide +kernel
theorem d_A_use_40 : decode b_A_use 40 = .ok (.iconst 0, 1) := by decide +kernel
theorem d_A_use_41 : decode b_A_use 41 = .ok (.istore 5, 2) := by decide +kernel
theorem d_A_use_43 : decode b_A_use 43 = .ok (.iload_n 3, 1) := by decide +kernel
theorem d_A_use_44 : decode b_A_use 44 = .ok (.iload 5, 2) := by decide +kernel
theorem d_A_use_46 : decode b_A_use 46 = .ok (.ifCond .eq 7, 3) := by decide +kernel
theorem d_A_use_49 : decode b_A_use 49 = .ok (.iconst 3, 1) := by decide +kernel
theorem d_A_use_50 : decode b_A_use 50 = .ok (.goto 4, 3) := by decide +kernel
theorem d_A_use_53 : decode b_A_use 53 = .ok (.iconst 4, 1) := by decide +kernel
theorem d_A_use_54 : decode b_A_use 54 = .ok (.invokestatic 40, 3) := by decide +kernel
theorem d_A_use_57 : decode b_A_use 57 = .ok (.ifCond .ne 5, 3) := by decide +kernel
theorem d_A_use_60 : decode b_A_use 60 = .ok (.iconst (-1), 1) := by decide +kernel
theorem d_A_use_61 : decode b_A_use 61 = .ok (.ireturn, 1) := by decide +kernel
theorem d_A_use_62 : decode b_A_use 62 = .ok (.iload 5, 2) := by decide +kernel
theorem d_A_use_64 : decode b_A_use 64 = .ok (.ifCond .eq 14, 3) := by decide +kernel
theorem d_A_use_67 : decode b_A_use 67 = .ok (.iload 4, 2) := by decide +kernel
theorem d_A_use_69 : decode b_A_use 69 = .ok (.iconst 4, 1) := by decide +kernel
theorem d_A_use_70 : decode b_A_use 70 = .ok (.invokestatic 40, 3) := by decide +kernel
theorem d_A_use_73 : decode b_A_use 73 = .ok (.ifCond .ne 5, 3) := by decide +kernel
theorem d_A_use_76 : decode b_A_use 76 = .ok (.iconst (-1), 1) := by decide +kernel
theorem d_A_use_77 : decode b_A_use 77 = .ok (.ireturn, 1) := by decide +kernel
theorem d_A_use_78 : decode b_A_use 78 = .ok (.aload_n 0, 1) := by decide +kernel
theorem d_A_use_79 : decode b_A_use 79 = .ok (.getfield 26, 3) := by decide +kernel
theorem d_A_use_82 : decode b_A_use 82 = .ok (.bipush 16, 2) := by decide +kernel
theorem d_A_use_84 : decode b_A_use 84 = .ok (.if_icmp .lt 6, 3) := by decide +kernel
theorem d_A_use_87 : decode b_A_use 87 = .ok (.bipush (-2), 2) := by decide +kernel
theorem d_A_use_89 : decode b_A_use 89 = .ok (.ireturn, 1) := by decide +kernel
theorem d_A_use_90 : decode b_A_use 90 = .ok (.aload_n 0, 1) := by decide +kernel
theorem d_A_use_91 : decode b_A_use 91 = .ok (.getfield 21, 3) := by decide +kernel
theorem d_A_use_94 : decode b_A_use 94 = .ok (.aload_n 0, 1) := by decide +kernel
theorem d_A_use_95 : decode b_A_use 95 = .ok (.getfield 26, 3) := by decide +kernel
theorem d_A_use_98 : decode b_A_use 98 = .ok (.aaload, 1) := by decide +kernel
theorem d_A_use_99 : decode b_A_use 99 = .ok (.iload_n 1, 1) := by decide +kernel
theorem d_A_use_100 : decode b_A_use 100 = .ok (.iload_n 2, 1) := by decide +kernel
theorem d_A_use_101 : decode b_A_use 101 = .ok (.iload_n 3, 1) := by decide +kernel
theorem d_A_use_102 : decode b_A_use 102 = .ok (.iload 4, 2) := by decide +kernel
theorem d_A_use_104 : decode b_A_use 104 = .ok (.invokevirtual 100, 3) := by decide +kernel
theorem d_A_use_107 : decode b_A_use 107 = .ok (.aload_n 0, 1) := by decide +kernel
theorem d_A_use_108 : decode b_A_use 108 = .ok (.dup, 1) := by decide +kernel
theorem d_A_use_109 : decode b_A_use 109 = .ok (.getfield 26, 3) := by decide +kernel
theorem d_A_use_112 : decode b_A_use 112 = .ok (.iconst 1, 1) := by decide +kernel
theorem d_A_use_113 : decode b_A_use 113 = .ok (.iadd, 1) := by decide +kernel
theorem d_A_use_114 : decode b_A_use 114 = .ok (.putfield 26, 3) := by decide +kernel
theorem d_A_use_117 : decode b_A_use 117 = .ok (.aload_n 0, 1) := by decide +kernel
theorem d_A_use_118 : decode b_A_use 118 = .ok (.getfield 26, 3) := by decide +kernel
theorem d_A_use_121 : decode b_A_use 121 = .ok (.iconst 1, 1) := by decide +kernel
theorem d_A_use_122 : decode b_A_use 122 = .ok (.isub, 1) := by decide +kernel
theorem d_A_use_123 : decode b_A_use 123 = .ok (.ireturn, 1) := by decide +kernel
theorem d_A_compile_0 : decode b_A_compile 0 = .ok (.iload_n 1, 1) := by decide +kernel
theorem d_A_compile_1 : decode b_A_compile 1 = .ok (.aload_n 0, 1) := by decide +kernel
theorem d_A_compile_2 : decode b_A_compile 2 = .ok (.getfield 26, 3) := by decide +kernel
theorem d_A_compile_5 : decode b_A_compile 5 = .ok (.invokestatic 40, 3) := by decide +kernel
theorem d_A_compile_8 : decode b_A_compile 8 = .ok (.ifCond .eq 11, 3) := by decide +kernel
theorem d_A_compile_11 : decode b_A_compile 11 = .ok (.iload_n 2, 1) := by decide +kernel
theorem d_A_compile_12 : decode b_A_compile 12 = .ok (.iconst 2, 1) := by decide +kernel
theorem d_A_compile_13 : decode b_A_compile 13 = .ok (.invokestatic 40, 3) := by decide +kernel
theorem d_A_compile_16 : decode b_A_compile 16 = .ok (.ifCond .ne 5, 3) := by decide +kernel
theorem d_A_compile_19 : decode b_A_compile 19 = .ok (.iconst (-1), 1) := by decide +kernel
theorem d_A_compile_20 : decode b_A_compile 20 = .ok (.ireturn, 1) := by decide +kernel
theorem d_A_compile_21 : decode b_A_compile 21 = .ok (.aload_n 0, 1) := by decide +kernel
theorem d_A_compile_22 : decode b_A_compile 22 = .ok (.getfield 33, 3) := by decide +kernel
theorem d_A_compile_25 : decode b_A_compile 25 = .ok (.aload_n 0, 1) := by decide +kernel
theorem d_A_compile_26 : decode b_A_compile 26 = .ok (.getfield 21, 3) := by decide +kernel
theorem d_A_compile_29 : decode b_A_compile 29 = .ok (.iload_n 1, 1) := by decide +kernel
theorem d_A_compile_30 : decode b_A_compile 30 = .ok (.aaload, 1) := by decide +kernel
theorem d_A_compile_31 : decode b_A_compile 31 = .ok (.aload_n 0, 1) := by decide +kernel
theorem d_A_compile_32 : decode b_A_compile 32 = .ok (.iload_n 2, 1) := by decide +kernel
theorem d_A_compile_33 : decode b_A_compile 33 = .ok (.invokevirtual 44, 3) := by decide +kernel
theorem d_A_compile_36 : decode b_A_compile 36 = .ok (.invokevirtual 103, 3) := by decide +kernel
theorem d_A_compile_39 : decode b_A_compile 39 = .ok (.aload_n 0, 1) := by decide +kernel
theorem d_A_compile_40 : decode b_A_compile 40 = .ok (.getfield 33, 3) := by decide +kernel
theorem d_A_compile_43 : decode b_A_compile 43 = .ok (.getfield 107, 3) := by decide +kernel
theorem d_A_compile_46 : decode b_A_compile 46 = .ok (.ireturn, 1) := by decide +kernel
theorem d_A_link_0 : decode b_A_link 0 = .ok (.iload_n 1, 1) := by decide +kernel
theorem d_A_link_1 : decode b_A_link 1 = .ok (.aload_n 0, 1) := by decide +kernel
theorem d_A_link_2 : decode b_A_link 2 = .ok (.getfield 26, 3) := by decide +kernel
theorem d_A_link_5 : decode b_A_link 5 = .ok (.invokestatic 40, 3) := by decide +kernel
theorem d_A_link_8 : decode b_A_link 8 = .ok (.ifCond .ne 5, 3) := by decide +kernel
theorem d_A_link_11 : decode b_A_link 11 = .ok (.iconst (-1), 1) := by decide +kernel
theorem d_A_link_12 : decode b_A_link 12 = .ok (.ireturn, 1) := by decide +kernel
theorem d_A_link_13 : decode b_A_link 13 = .ok (.aload_n 0, 1) := by decide +kernel
theorem d_A_link_14 : decode b_A_link 14 = .ok (.iload_n 1, 1) := by decide +kernel
theorem d_A_link_15 : decode b_A_link 15 = .ok (.invokevirtual 110, 3) := by decide +kernel
theorem d_A_link_18 : decode b_A_link 18 = .ok (.ireturn, 1) := by decide +kernel
theorem d_A_recompile_0 : decode b_A_recompile 0 = .ok (.iload_n 1, 1) := by decide +kernel
theorem d_A_recompile_1 : decode b_A_recompile 1 = .ok (.aload_n 0, 1) := by decide +kernel
theorem d_A_recompile_2 : decode b_A_recompile 2 = .ok (.getfield 26, 3) := by decide +kernel
theorem d_A_recompile_5 : decode b_A_recompile 5 = .ok (.invokestatic 40, 3) := by decide +kernel
theorem d_A_recompile_8 : decode b_A_recompile 8 = .ok (.ifCond .ne 5, 3) := by decide +kernel
theorem d_A_recompile_11 : decode b_A_recompile 11 = .ok (.iconst (-1), 1) := by decide +kernel
theorem d_A_recompile_12 : decode b_A_recompile 12 = .ok (.ireturn, 1) := by decide +kernel
theorem d_A_recompile_13 : decode b_A_recompile 13 = .ok (.aload_n 0, 1) := by decide +kernel
theorem d_A_recompile_14 : decode b_A_recompile 14 = .ok (.getfield 33, 3) := by decide +kernel
theorem d_A_recompile_17 : decode b_A_recompile 17 = .ok (.aload_n 0, 1) := by decide +kernel
theorem d_A_recompile_18 : decode b_A_recompile 18 = .ok (.getfield 21, 3) := by decide +kernel
theorem d_A_recompile_21 : decode b_A_recompile 21 = .ok (.iload_n 1, 1) := by decide +kernel
theorem d_A_recompile_22 : decode b_A_recompile 22 = .ok (.aaload, 1) := by decide +kernel
theorem d_A_recompile_23 : decode b_A_recompile 23 = .ok (.aload_n 0, 1) := by decide +kernel
theorem d_A_recompile_24 : decode b_A_recompile 24 = .ok (.getfield 12, 3) := by decide +kernel
theorem d_A_recompile_27 : decode b_A_recompile 27 = .ok (.invokevirtual 103, 3) := by decide +kernel
theorem d_A_recompile_30 : decode b_A_recompile 30 = .ok (.aload_n 0, 1) := by decide +kernel
theorem d_A_recompile_31 : decode b_A_recompile 31 = .ok (.getfield 33, 3) := by decide +kernel
theorem d_A_recompile_34 : decode b_A_recompile 34 = .ok (.getfield 107, 3) := by decide +kernel
theorem d_A_recompile_37 : decode b_A_recompile 37 = .ok (.ifCond .eq 11, 3) := by decide +kernel
theorem d_A_recompile_40 : decode b_A_recompile 40 = .ok (.aload_n 0, 1) := by decide +kernel
theorem d_A_recompile_41 : decode b_A_recompile 41 = .ok (.getfield 33, 3) := by decide +kernel
theorem d_A_recompile_44 : decode b_A_recompile 44 = .ok (.getfield 107, 3) := by decide +kernel
theorem d_A_recompile_47 : decode b_A_recompile 47 = .ok (.ireturn, 1) := by decide +kernel
theorem d_A_recompile_48 : decode b_A_recompile 48 = .ok (.aload_n 0, 1) := by decide +kernel
theorem d_A_recompile_49 : decode b_A_recompile 49 = .ok (.getfield 37, 3) := by decide +kernel
theorem d_A_recompile_52 : decode b_A_recompile 52 = .ok (.aload_n 0, 1) := by decide +kernel
theorem d_A_recompile_53 : decode b_A_recompile 53 = .ok (.getfield 21, 3) := by decide +kernel
theorem d_A_recompile_56 : decode b_A_recompile 56 = .ok (.iload_n 1, 1) := by decide +kernel
theorem d_A_recompile_57 : decode b_A_recompile 57 = .ok (.aaload, 1) := by decide +kernel
theorem d_A_recompile_58 : decode b_A_recompile 58 = .ok (.aload_n 0, 1) := by decide +kernel
theorem d_A_recompile_59 : decode b_A_recompile 59 = .ok (.getfield 16, 3) := by decide +kernel
theorem d_A_recompile_62 : decode b_A_recompile 62 = .ok (.invokevirtual 103, 3) := by decide +kernel
theorem d_A_recompile_65 : decode b_A_recompile 65 = .ok (.aload_n 0, 1) := by decide +kernel
theorem d_A_recompile_66 : decode b_A_recompile 66 = .ok (.getfield 37, 3) := by decide +kernel
theorem d_A_recompile_69 : decode b_A_recompile 69 = .ok (.getfield 107, 3) := by decide +kernel
theorem d_A_recompile_72 : decode b_A_recompile 72 = .ok (.ifCond .eq 11, 3) := by decide +kernel
theorem d_A_recompile_75 : decode b_A_recompile 75 = .ok (.aload_n 0, 1) := by decide +kernel
theorem d_A_recompile_76 : decode b_A_recompile 76 = .ok (.getfield 37, 3) := by decide +kernel
theorem d_A_recompile_79 : decode b_A_recompile 79 = .ok (.getfield 107, 3) := by decide +kernel
theorem d_A_recompile_82 : decode b_A_recompile 82 = .ok (.ireturn, 1) := by decide +kernel
theorem d_A_recompile_83 : decode b_A_recompile 83 = .ok (.aload_n 0, 1) := by decide +kernel
theorem d_A_recompile_84 : decode b_A_recompile 84 = .ok (.getfield 33, 3) := by decide +kernel
theorem d_A_recompile_87 : decode b_A_recompile 87 = .ok (.aload_n 0, 1) := by decide +kernel
theorem d_A_recompile_88 : decode b_A_recompile 88 = .ok (.getfield 37, 3) := by decide +kernel
theorem d_A_recompile_91 : decode b_A_recompile 91 = .ok (.aload_n 0, 1) := by decide +kernel
theorem d_A_recompile_92 : decode b_A_recompile 92 = .ok (.getfield 21, 3) := by decide +kernel
theorem d_A_recompile_95 : decode b_A_recompile 95 = .ok (.iload_n 1, 1) := by decide +kernel
theorem d_A_recompile_96 : decode b_A_recompile 96 = .ok (.aaload, 1) := by decide +kernel
theorem d_A_recompile_97 : decode b_A_recompile 97 = .ok (.getfield 114, 3) := by decide +kernel
theorem d_A_recompile_100 : decode b_A_recompile 100 = .ok (.invokevirtual 117, 3) := by decide +kernel
theorem d_A_recompile_103 : decode b_A_recompile 103 = .ok (.ifCond .eq 7, 3) := by decide +kernel
theorem d_A_recompile_106 : decode b_A_recompile 106 = .ok (.iconst 0, 1) := by decide +kernel
theorem d_A_recompile_107 : decode b_A_recompile 107 = .ok (.goto 4, 3) := by decide +kernel
theorem d_A_recompile_110 : decode b_A_recompile 110 = .ok (.iconst 1, 1) := by decide +kernel
theorem d_A_recompile_111 : decode b_A_recompile 111 = .ok (.ireturn, 1) := by decide +kernel
theorem d_A_value_0 : decode b_A_value 0 = .ok (.iload_n 1, 1) := by decide +kernel
theorem d_A_value_1 : decode b_A_value 1 = .ok (.aload_n 0, 1) := by decide +kernel
theorem d_A_value_2 : decode b_A_value 2 = .ok (.getfield 26, 3) := by decide +kernel
theorem d_A_value_5 : decode b_A_value 5 = .ok (.invokestatic 40, 3) := by decide +kernel
theorem d_A_value_8 : decode b_A_value 8 = .ok (.ifCond .eq 11, 3) := by decide +kernel
theorem d_A_value_11 : decode b_A_value 11 = .ok (.iload_n 2, 1) := by decide +kernel
theorem d_A_value_12 : decode b_A_value 12 = .ok (.iconst 2, 1) := by decide +kernel
theorem d_A_value_13 : decode b_A_value 13 = .ok (.invokestatic 40, 3) := by decide +kernel
theorem d_A_value_16 : decode b_A_value 16 = .ok (.ifCond .ne 5, 3) := by decide +kernel
theorem d_A_value_19 : decode b_A_value 19 = .ok (.dconst 0, 1) := by decide +kernel
theorem d_A_value_20 : decode b_A_value 20 = .ok (.dreturn, 1) := by decide +kernel
theorem d_A_value_21 : decode b_A_value 21 = .ok (.aload_n 0, 1) := by decide +kernel
theorem d_A_value_22 : decode b_A_value 22 = .ok (.getfield 33, 3) := by decide +kernel
theorem d_A_value_25 : decode b_A_value 25 = .ok (.aload_n 0, 1) := by decide +kernel
theorem d_A_value_26 : decode b_A_value 26 = .ok (.getfield 21, 3) := by decide +kernel
theorem d_A_value_29 : decode b_A_value 29 = .ok (.iload_n 1, 1) := by decide +kernel
theorem d_A_value_30 : decode b_A_value 30 = .ok (.aaload, 1) := by decide +kernel
theorem d_A_value_31 : decode b_A_value 31 = .ok (.aload_n 0, 1) := by decide +kernel
theorem d_A_value_32 : decode b_A_value 32 = .ok (.iload_n 2, 1) := by decide +kernel
theorem d_A_value_33 : decode b_A_value 33 = .ok (.invokevirtual 44, 3) := by decide +kernel
theorem d_A_value_36 : decode b_A_value 36 = .ok (.invokevirtual 103, 3) := by decide +kernel
theorem d_A_value_39 : decode b_A_value 39 = .ok (.aload_n 0, 1) := by decide +kernel
theorem d_A_value_40 : decode b_A_value 40 = .ok (.getfield 33, 3) := by decide +kernel
theorem d_A_value_43 : decode b_A_value 43 = .ok (.getfield 121, 3) := by decide +kernel
theorem d_A_value_46 : decode b_A_value 46 = .ok (.ifCond .ne 5, 3) := by decide +kernel
theorem d_A_value_49 : decode b_A_value 49 = .ok (.dconst 0, 1) := by decide +kernel
theorem d_A_value_50 : decode b_A_value 50 = .ok (.dreturn, 1) := by decide +kernel
theorem d_A_value_51 : decode b_A_value 51 = .ok (.aload_n 0, 1) := by decide +kernel
theorem d_A_value_52 : decode b_A_value 52 = .ok (.getfield 33, 3) := by decide +kernel
theorem d_A_value_55 : decode b_A_value 55 = .ok (.getfield 125, 3) := by decide +kernel
theorem d_A_value_58 : decode b_A_value 58 = .ok (.iconst 1, 1) := by decide +kernel
theorem d_A_value_59 : decode b_A_value 59 = .ok (.if_icmp .ne 18, 3) := by decide +kernel
theorem d_A_value_62 : decode b_A_value 62 = .ok (.aload_n 0, 1) := by decide +kernel
theorem d_A_value_63 : decode b_A_value 63 = .ok (.getfield 33, 3) := by decide +kernel
theorem d_A_value_66 : decode b_A_value 66 = .ok (.getfield 128, 3) := by decide +kernel
theorem d_A_value_69 : decode b_A_value 69 = .ok (.i2d, 1) := by decide +kernel
theorem d_A_value_70 : decode b_A_value 70 = .ok (.ldc2_w 131, 3) := by decide +kernel
theorem d_A_value_73 : decode b_A_value 73 = .ok (.dmul, 1) := by decide +kernel
theorem d_A_value_74 : decode b_A_value 74 = .ok (.goto 11, 3) := by decide +kernel
theorem d_A_value_77 : decode b_A_value 77 = .ok (.aload_n 0, 1) := by decide +kernel
theorem d_A_value_78 : decode b_A_value 78 = .ok (.getfield 33, 3) := by decide +kernel
theorem d_A_value_81 : decode b_A_value 81 = .ok (.getfield 128, 3) := by decide +kernel
theorem d_A_value_84 : decode b_A_value 84 = .ok (.i2d, 1) := by decide +kernel
theorem d_A_value_85 : decode b_A_value 85 = .ok (.dreturn, 1) := by decide +kernel
theorem d_A_share_0 : decode b_A_share 0 = .ok (.iconst 0, 1) := by decide +kernel
theorem d_A_share_1 : decode b_A_share 1 = .ok (.istore_n 1, 1) := by decide +kernel
theorem d_A_share_2 : decode b_A_share 2 = .ok (.iconst 0, 1) := by decide +kernel
theorem d_A_share_3 : decode b_A_share 3 = .ok (.istore_n 2, 1) := by decide +kernel
theorem d_A_share_4 : decode b_A_share 4 = .ok (.iconst 0, 1) := by decide +kernel
theorem d_A_share_5 : decode b_A_share 5 = .ok (.istore_n 3, 1) := by decide +kernel
theorem d_A_share_6 : decode b_A_share 6 = .ok (.iload_n 3, 1) := by decide +kernel
theorem d_A_share_7 : decode b_A_share 7 = .ok (.aload_n 0, 1) := by decide +kernel
theorem d_A_share_8 : decode b_A_share 8 = .ok (.getfield 26, 3) := by decide +kernel
theorem d_A_share_11 : decode b_A_share 11 = .ok (.if_icmp .ge 35, 3) := by decide +kernel
theorem d_A_share_14 : decode b_A_share 14 = .ok (.aload_n 0, 1) := by decide +kernel
theorem d_A_share_15 : decode b_A_share 15 = .ok (.iload_n 3, 1) := by decide +kernel
theorem d_A_share_16 : decode b_A_share 16 = .ok (.invokevirtual 110, 3) := by decide +kernel
theorem d_A_share_19 : decode b_A_share 19 = .ok (.istore 4, 2) := by decide +kernel
theorem d_A_share_21 : decode b_A_share 21 = .ok (.iload 4, 2) := by decide +kernel
theorem d_A_share_23 : decode b_A_share 23 = .ok (.invokestatic 133, 3) := by decide +kernel
theorem d_A_share_26 : decode b_A_share 26 = .ok (.ifCond .ne 6, 3) := by decide +kernel
theorem d_A_share_29 : decode b_A_share 29 = .ok (.iinc 1 1, 3) := by decide +kernel
theorem d_A_share_32 : decode b_A_share 32 = .ok (.iload 4, 2) := by decide +kernel
theorem d_A_share_34 : decode b_A_share 34 = .ok (.ifCond .lt 6, 3) := by decide +kernel
end
section
theorem d_A_share_37 : decode b_A_share 37 = .ok (.iinc 2 1, 3) := by decide +kernel
theorem d_A_share_40 : decode b_A_share 40 = .ok (.iinc 3 1, 3) := by decide +kernel
theorem d_A_share_43 : decode b_A_share 43 = .ok (.goto (-37), 3) := by decide +kernel
theorem d_A_share_46 : decode b_A_share 46 = .ok (.iload_n 1, 1) := by decide +kernel
theorem d_A_share_47 : decode b_A_share 47 = .ok (.ifCond .ne 7, 3) := by decide +kernel
theorem d_A_share_50 : decode b_A_share 50 = .ok (.dconst 1, 1) := by decide +kernel
theorem d_A_share_51 : decode b_A_share 51 = .ok (.goto 8, 3) := by decide +kernel
theorem d_A_share_54 : decode b_A_share 54 = .ok (.iload_n 2, 1) := by decide +kernel
theorem d_A_share_55 : decode b_A_share 55 = .ok (.i2d, 1) := by decide +kernel
theorem d_A_share_56 : decode b_A_share 56 = .ok (.iload_n 1, 1) := by decide +kernel
theorem d_A_share_57 : decode b_A_share 57 = .ok (.i2d, 1) := by decide +kernel
theorem d_A_share_58 : decode b_A_share 58 = .ok (.ddiv, 1) := by decide +kernel
theorem d_A_share_59 : decode b_A_share 59 = .ok (.dreturn, 1) := by decide +kernel
theorem d_A_breaking_0 : decode b_A_breaking 0 = .ok (.iconst 0, 1) := by decide +kernel
theorem d_A_breaking_1 : decode b_A_breaking 1 = .ok (.istore_n 1, 1) := by decide +kernel
theorem d_A_breaking_2 : decode b_A_breaking 2 = .ok (.iconst 0, 1) := by decide +kernel
theorem d_A_breaking_3 : decode b_A_breaking 3 = .ok (.istore_n 2, 1) := by decide +kernel
theorem d_A_breaking_4 : decode b_A_breaking 4 = .ok (.iload_n 2, 1) := by decide +kernel
theorem d_A_breaking_5 : decode b_A_breaking 5 = .ok (.aload_n 0, 1) := by decide +kernel
theorem d_A_breaking_6 : decode b_A_breaking 6 = .ok (.getfield 26, 3) := by decide +kernel
theorem d_A_breaking_9 : decode b_A_breaking 9 = .ok (.if_icmp .ge 23, 3) := by decide +kernel
theorem d_A_breaking_12 : decode b_A_breaking 12 = .ok (.aload_n 0, 1) := by decide +kernel
theorem d_A_breaking_13 : decode b_A_breaking 13 = .ok (.iload_n 2, 1) := by decide +kernel
theorem d_A_breaking_14 : decode b_A_breaking 14 = .ok (.invokevirtual 110, 3) := by decide +kernel
theorem d_A_breaking_17 : decode b_A_breaking 17 = .ok (.invokestatic 136, 3) := by decide +kernel
theorem d_A_breaking_20 : decode b_A_breaking 20 = .ok (.ifCond .eq 6, 3) := by decide +kernel
theorem d_A_breaking_23 : decode b_A_breaking 23 = .ok (.iinc 1 1, 3) := by decide +kernel
theorem d_A_breaking_26 : decode b_A_breaking 26 = .ok (.iinc 2 1, 3) := by decide +kernel
theorem d_A_breaking_29 : decode b_A_breaking 29 = .ok (.goto (-25), 3) := by decide +kernel
theorem d_A_breaking_32 : decode b_A_breaking 32 = .ok (.iload_n 1, 1) := by decide +kernel
theorem d_A_breaking_33 : decode b_A_breaking 33 = .ok (.ireturn, 1) := by decide +kernel
theorem d_A_broken_0 : decode b_A_broken 0 = .ok (.iconst 0, 1) := by decide +kernel
theorem d_A_broken_1 : decode b_A_broken 1 = .ok (.istore_n 2, 1) := by decide +kernel
theorem d_A_broken_2 : decode b_A_broken 2 = .ok (.iconst 0, 1) := by decide +kernel
theorem d_A_broken_3 : decode b_A_broken 3 = .ok (.istore_n 3, 1) := by decide +kernel
theorem d_A_broken_4 : decode b_A_broken 4 = .ok (.iload_n 3, 1) := by decide +kernel
theorem d_A_broken_5 : decode b_A_broken 5 = .ok (.aload_n 0, 1) := by decide +kernel
theorem d_A_broken_6 : decode b_A_broken 6 = .ok (.getfield 26, 3) := by decide +kernel
theorem d_A_broken_9 : decode b_A_broken 9 = .ok (.if_icmp .ge 30, 3) := by decide +kernel
theorem d_A_broken_12 : decode b_A_broken 12 = .ok (.aload_n 0, 1) := by decide +kernel
theorem d_A_broken_13 : decode b_A_broken 13 = .ok (.iload_n 3, 1) := by decide +kernel
theorem d_A_broken_14 : decode b_A_broken 14 = .ok (.invokevirtual 110, 3) := by decide +kernel
theorem d_A_broken_17 : decode b_A_broken 17 = .ok (.invokestatic 136, 3) := by decide +kernel
theorem d_A_broken_20 : decode b_A_broken 20 = .ok (.ifCond .eq 13, 3) := by decide +kernel
theorem d_A_broken_23 : decode b_A_broken 23 = .ok (.iload_n 2, 1) := by decide +kernel
theorem d_A_broken_24 : decode b_A_broken 24 = .ok (.iload_n 1, 1) := by decide +kernel
theorem d_A_broken_25 : decode b_A_broken 25 = .ok (.if_icmp .ne 5, 3) := by decide +kernel
theorem d_A_broken_28 : decode b_A_broken 28 = .ok (.iload_n 3, 1) := by decide +kernel
theorem d_A_broken_29 : decode b_A_broken 29 = .ok (.ireturn, 1) := by decide +kernel
theorem d_A_broken_30 : decode b_A_broken 30 = .ok (.iinc 2 1, 3) := by decide +kernel
theorem d_A_broken_33 : decode b_A_broken 33 = .ok (.iinc 3 1, 3) := by decide +kernel
theorem d_A_broken_36 : decode b_A_broken 36 = .ok (.goto (-32), 3) := by decide +kernel
theorem d_A_broken_39 : decode b_A_broken 39 = .ok (.iconst (-1), 1) := by decide +kernel
theorem d_A_broken_40 : decode b_A_broken 40 = .ok (.ireturn, 1) := by decide +kernel
theorem d_A_differ_0 : decode b_A_differ 0 = .ok (.iload_n 1, 1) := by decide +kernel
theorem d_A_differ_1 : decode b_A_differ 1 = .ok (.bipush 6, 2) := by decide +kernel
theorem d_A_differ_3 : decode b_A_differ 3 = .ok (.invokestatic 40, 3) := by decide +kernel
theorem d_A_differ_6 : decode b_A_differ 6 = .ok (.ifCond .ne 5, 3) := by decide +kernel
theorem d_A_differ_9 : decode b_A_differ 9 = .ok (.iconst (-1), 1) := by decide +kernel
theorem d_A_differ_10 : decode b_A_differ 10 = .ok (.ireturn, 1) := by decide +kernel
theorem d_A_differ_11 : decode b_A_differ 11 = .ok (.aload_n 0, 1) := by decide +kernel
theorem d_A_differ_12 : decode b_A_differ 12 = .ok (.getfield 12, 3) := by decide +kernel
theorem d_A_differ_15 : decode b_A_differ 15 = .ok (.iload_n 1, 1) := by decide +kernel
theorem d_A_differ_16 : decode b_A_differ 16 = .ok (.invokevirtual 52, 3) := by decide +kernel
theorem d_A_differ_19 : decode b_A_differ 19 = .ok (.istore_n 2, 1) := by decide +kernel
theorem d_A_differ_20 : decode b_A_differ 20 = .ok (.aload_n 0, 1) := by decide +kernel
theorem d_A_differ_21 : decode b_A_differ 21 = .ok (.getfield 16, 3) := by decide +kernel
theorem d_A_differ_24 : decode b_A_differ 24 = .ok (.iload_n 1, 1) := by decide +kernel
theorem d_A_differ_25 : decode b_A_differ 25 = .ok (.invokevirtual 52, 3) := by decide +kernel
theorem d_A_differ_28 : decode b_A_differ 28 = .ok (.istore_n 3, 1) := by decide +kernel
theorem d_A_differ_29 : decode b_A_differ 29 = .ok (.iload_n 2, 1) := by decide +kernel
theorem d_A_differ_30 : decode b_A_differ 30 = .ok (.ifCond .eq 20, 3) := by decide +kernel
theorem d_A_differ_33 : decode b_A_differ 33 = .ok (.iload_n 3, 1) := by decide +kernel
theorem d_A_differ_34 : decode b_A_differ 34 = .ok (.ifCond .eq 16, 3) := by decide +kernel
theorem d_A_differ_37 : decode b_A_differ 37 = .ok (.aload_n 0, 1) := by decide +kernel
theorem d_A_differ_38 : decode b_A_differ 38 = .ok (.getfield 12, 3) := by decide +kernel
theorem d_A_differ_41 : decode b_A_differ 41 = .ok (.aload_n 0, 1) := by decide +kernel
theorem d_A_differ_42 : decode b_A_differ 42 = .ok (.getfield 16, 3) := by decide +kernel
theorem d_A_differ_45 : decode b_A_differ 45 = .ok (.iload_n 1, 1) := by decide +kernel
theorem d_A_differ_46 : decode b_A_differ 46 = .ok (.invokevirtual 139, 3) := by decide +kernel
theorem d_A_differ_49 : decode b_A_differ 49 = .ok (.ireturn, 1) := by decide +kernel
theorem d_A_differ_50 : decode b_A_differ 50 = .ok (.iload_n 2, 1) := by decide +kernel
theorem d_A_differ_51 : decode b_A_differ 51 = .ok (.ifCond .eq 6, 3) := by decide +kernel
theorem d_A_differ_54 : decode b_A_differ 54 = .ok (.bipush (-3), 2) := by decide +kernel
theorem d_A_differ_56 : decode b_A_differ 56 = .ok (.ireturn, 1) := by decide +kernel
theorem d_A_differ_57 : decode b_A_differ 57 = .ok (.iload_n 3, 1) := by decide +kernel
theorem d_A_differ_58 : decode b_A_differ 58 = .ok (.ifCond .eq 8, 3) := by decide +kernel
theorem d_A_differ_61 : decode b_A_differ 61 = .ok (.bipush (-4), 2) := by decide +kernel
theorem d_A_differ_63 : decode b_A_differ 63 = .ok (.goto 5, 3) := by decide +kernel
theorem d_A_differ_66 : decode b_A_differ 66 = .ok (.bipush (-2), 2) := by decide +kernel
theorem d_A_differ_68 : decode b_A_differ 68 = .ok (.ireturn, 1) := by decide +kernel
theorem d_A_under_0 : decode b_A_under 0 = .ok (.aload_n 0, 1) := by decide +kernel
theorem d_A_under_1 : decode b_A_under 1 = .ok (.iload_n 1, 1) := by decide +kernel
theorem d_A_under_2 : decode b_A_under 2 = .ok (.iload_n 2, 1) := by decide +kernel
theorem d_A_under_3 : decode b_A_under 3 = .ok (.invokevirtual 66, 3) := by decide +kernel
theorem d_A_under_6 : decode b_A_under 6 = .ok (.ifCond .eq 12, 3) := by decide +kernel
theorem d_A_under_9 : decode b_A_under 9 = .ok (.aload_n 0, 1) := by decide +kernel
theorem d_A_under_10 : decode b_A_under 10 = .ok (.iload_n 1, 1) := by decide +kernel
theorem d_A_under_11 : decode b_A_under 11 = .ok (.iload_n 3, 1) := by decide +kernel
theorem d_A_under_12 : decode b_A_under 12 = .ok (.invokevirtual 66, 3) := by decide +kernel
theorem d_A_under_15 : decode b_A_under 15 = .ok (.ifCond .ne 5, 3) := by decide +kernel
theorem d_A_under_18 : decode b_A_under 18 = .ok (.iconst 0, 1) := by decide +kernel
theorem d_A_under_19 : decode b_A_under 19 = .ok (.ireturn, 1) := by decide +kernel
theorem d_A_under_20 : decode b_A_under 20 = .ok (.aload_n 0, 1) := by decide +kernel
theorem d_A_under_21 : decode b_A_under 21 = .ok (.iload_n 1, 1) := by decide +kernel
theorem d_A_under_22 : decode b_A_under 22 = .ok (.invokevirtual 44, 3) := by decide +kernel
theorem d_A_under_25 : decode b_A_under 25 = .ok (.iload_n 2, 1) := by decide +kernel
theorem d_A_under_26 : decode b_A_under 26 = .ok (.invokevirtual 143, 3) := by decide +kernel
theorem d_A_under_29 : decode b_A_under 29 = .ok (.iload_n 3, 1) := by decide +kernel
theorem d_A_under_30 : decode b_A_under 30 = .ok (.invokestatic 146, 3) := by decide +kernel
theorem d_A_under_33 : decode b_A_under 33 = .ok (.ireturn, 1) := by decide +kernel
theorem d_A_count_0 : decode b_A_count 0 = .ok (.iload_n 1, 1) := by decide +kernel
theorem d_A_count_1 : decode b_A_count 1 = .ok (.iconst 2, 1) := by decide +kernel
theorem d_A_count_2 : decode b_A_count 2 = .ok (.invokestatic 40, 3) := by decide +kernel
theorem d_A_count_5 : decode b_A_count 5 = .ok (.ifCond .ne 5, 3) := by decide +kernel
theorem d_A_count_8 : decode b_A_count 8 = .ok (.iconst (-1), 1) := by decide +kernel
theorem d_A_count_9 : decode b_A_count 9 = .ok (.ireturn, 1) := by decide +kernel
theorem d_A_count_10 : decode b_A_count 10 = .ok (.aload_n 0, 1) := by decide +kernel
theorem d_A_count_11 : decode b_A_count 11 = .ok (.iload_n 1, 1) := by decide +kernel
theorem d_A_count_12 : decode b_A_count 12 = .ok (.invokevirtual 44, 3) := by decide +kernel
theorem d_A_count_15 : decode b_A_count 15 = .ok (.astore_n 3, 1) := by decide +kernel
theorem d_A_count_16 : decode b_A_count 16 = .ok (.iload_n 2, 1) := by decide +kernel
theorem d_A_count_17 : decode b_A_count 17 = .ok (.tableswitch 60 0 3 #[31, 39, 47, 55], 31) := by decide +kernel
theorem d_A_count_48 : decode b_A_count 48 = .ok (.aload_n 3, 1) := by decide +kernel
theorem d_A_count_49 : decode b_A_count 49 = .ok (.getfield 149, 3) := by decide +kernel
theorem d_A_count_52 : decode b_A_count 52 = .ok (.invokestatic 153, 3) := by decide +kernel
theorem d_A_count_55 : decode b_A_count 55 = .ok (.ireturn, 1) := by decide +kernel
theorem d_A_count_56 : decode b_A_count 56 = .ok (.aload_n 3, 1) := by decide +kernel
theorem d_A_count_57 : decode b_A_count 57 = .ok (.getfield 157, 3) := by decide +kernel
theorem d_A_count_60 : decode b_A_count 60 = .ok (.invokestatic 153, 3) := by decide +kernel
theorem d_A_count_63 : decode b_A_count 63 = .ok (.ireturn, 1) := by decide +kernel
theorem d_A_count_64 : decode b_A_count 64 = .ok (.aload_n 3, 1) := by decide +kernel
theorem d_A_count_65 : decode b_A_count 65 = .ok (.getfield 160, 3) := by decide +kernel
theorem d_A_count_68 : decode b_A_count 68 = .ok (.invokestatic 153, 3) := by decide +kernel
theorem d_A_count_71 : decode b_A_count 71 = .ok (.ireturn, 1) := by decide +kernel
theorem d_A_count_72 : decode b_A_count 72 = .ok (.aload_n 0, 1) := by decide +kernel
theorem d_A_count_73 : decode b_A_count 73 = .ok (.getfield 26, 3) := by decide +kernel
theorem d_A_count_76 : decode b_A_count 76 = .ok (.ireturn, 1) := by decide +kernel
theorem d_A_count_77 : decode b_A_count 77 = .ok (.iconst (-1), 1) := by decide +kernel
theorem d_A_count_78 : decode b_A_count 78 = .ok (.ireturn, 1) := by decide +kernel
theorem d_A_offerOf_0 : decode b_A_offerOf 0 = .ok (.iload_n 1, 1) := by decide +kernel
theorem d_A_offerOf_1 : decode b_A_offerOf 1 = .ok (.ifCond .ne 10, 3) := by decide +kernel
theorem d_A_offerOf_4 : decode b_A_offerOf 4 = .ok (.aload_n 0, 1) := by decide +kernel
theorem d_A_offerOf_5 : decode b_A_offerOf 5 = .ok (.getfield 12, 3) := by decide +kernel
theorem d_A_offerOf_8 : decode b_A_offerOf 8 = .ok (.goto 7, 3) := by decide +kernel
theorem d_A_offerOf_11 : decode b_A_offerOf 11 = .ok (.aload_n 0, 1) := by decide +kernel
theorem d_A_offerOf_12 : decode b_A_offerOf 12 = .ok (.getfield 16, 3) := by decide +kernel
theorem d_A_offerOf_15 : decode b_A_offerOf 15 = .ok (.areturn, 1) := by decide +kernel
theorem d_A_isTypeThere_0 : decode b_A_isTypeThere 0 = .ok (.iload_n 1, 1) := by decide +kernel
theorem d_A_isTypeThere_1 : decode b_A_isTypeThere 1 = .ok (.iconst 2, 1) := by decide +kernel
theorem d_A_isTypeThere_2 : decode b_A_isTypeThere 2 = .ok (.invokestatic 40, 3) := by decide +kernel
theorem d_A_isTypeThere_5 : decode b_A_isTypeThere 5 = .ok (.ifCond .eq 28, 3) := by decide +kernel
theorem d_A_isTypeThere_8 : decode b_A_isTypeThere 8 = .ok (.iload_n 2, 1) := by decide +kernel
theorem d_A_isTypeThere_9 : decode b_A_isTypeThere 9 = .ok (.bipush 6, 2) := by decide +kernel
theorem d_A_isTypeThere_11 : decode b_A_isTypeThere 11 = .ok (.invokestatic 40, 3) := by decide +kernel
theorem d_A_isTypeThere_14 : decode b_A_isTypeThere 14 = .ok (.ifCond .eq 19, 3) := by decide +kernel
theorem d_A_isTypeThere_17 : decode b_A_isTypeThere 17 = .ok (.aload_n 0, 1) := by decide +kernel
theorem d_A_isTypeThere_18 : decode b_A_isTypeThere 18 = .ok (.iload_n 1, 1) := by decide +kernel
theorem d_A_isTypeThere_19 : decode b_A_isTypeThere 19 = .ok (.invokevirtual 44, 3) := by decide +kernel
theorem d_A_isTypeThere_22 : decode b_A_isTypeThere 22 = .ok (.iload_n 2, 1) := by decide +kernel
theorem d_A_isTypeThere_23 : decode b_A_isTypeThere 23 = .ok (.invokevirtual 52, 3) := by decide +kernel
theorem d_A_isTypeThere_26 : decode b_A_isTypeThere 26 = .ok (.ifCond .eq 7, 3) := by decide +kernel
theorem d_A_isTypeThere_29 : decode b_A_isTypeThere 29 = .ok (.iconst 1, 1) := by decide +kernel
theorem d_A_isTypeThere_30 : decode b_A_isTypeThere 30 = .ok (.goto 4, 3) := by decide +kernel
theorem d_A_isTypeThere_33 : decode b_A_isTypeThere 33 = .ok (.iconst 0, 1) := by decide +kernel
theorem d_A_isTypeThere_34 : decode b_A_isTypeThere 34 = .ok (.ireturn, 1) := by decide +kernel
theorem d_A_fateOf_0 : decode b_A_fateOf 0 = .ok (.aload_n 0, 1) := by decide +kernel
theorem d_A_fateOf_1 : decode b_A_fateOf 1 = .ok (.getfield 33, 3) := by decide +kernel
theorem d_A_fateOf_4 : decode b_A_fateOf 4 = .ok (.aload_n 0, 1) := by decide +kernel
theorem d_A_fateOf_5 : decode b_A_fateOf 5 = .ok (.getfield 21, 3) := by decide +kernel
theorem d_A_fateOf_8 : decode b_A_fateOf 8 = .ok (.iload_n 1, 1) := by decide +kernel
theorem d_A_fateOf_9 : decode b_A_fateOf 9 = .ok (.aaload, 1) := by decide +kernel
theorem d_A_fateOf_10 : decode b_A_fateOf 10 = .ok (.aload_n 0, 1) := by decide +kernel
theorem d_A_fateOf_11 : decode b_A_fateOf 11 = .ok (.getfield 12, 3) := by decide +kernel
theorem d_A_fateOf_14 : decode b_A_fateOf 14 = .ok (.invokevirtual 103, 3) := by decide +kernel
theorem d_A_fateOf_17 : decode b_A_fateOf 17 = .ok (.aload_n 0, 1) := by decide +kernel
theorem d_A_fateOf_18 : decode b_A_fateOf 18 = .ok (.getfield 33, 3) := by decide +kernel
theorem d_A_fateOf_21 : decode b_A_fateOf 21 = .ok (.getfield 107, 3) := by decide +kernel
theorem d_A_fateOf_24 : decode b_A_fateOf 24 = .ok (.ifCond .eq 13, 3) := by decide +kernel
theorem d_A_fateOf_27 : decode b_A_fateOf 27 = .ok (.aload_n 0, 1) := by decide +kernel
theorem d_A_fateOf_28 : decode b_A_fateOf 28 = .ok (.getfield 33, 3) := by decide +kernel
theorem d_A_fateOf_31 : decode b_A_fateOf 31 = .ok (.getfield 107, 3) := by decide +kernel
theorem d_A_fateOf_34 : decode b_A_fateOf 34 = .ok (.goto 20, 3) := by decide +kernel
theorem d_A_fateOf_37 : decode b_A_fateOf 37 = .ok (.aload_n 0, 1) := by decide +kernel
theorem d_A_fateOf_38 : decode b_A_fateOf 38 = .ok (.getfield 33, 3) := by decide +kernel
theorem d_A_fateOf_41 : decode b_A_fateOf 41 = .ok (.aload_n 0, 1) := by decide +kernel
theorem d_A_fateOf_42 : decode b_A_fateOf 42 = .ok (.getfield 21, 3) := by decide +kernel
theorem d_A_fateOf_45 : decode b_A_fateOf 45 = .ok (.iload_n 1, 1) := by decide +kernel
theorem d_A_fateOf_46 : decode b_A_fateOf 46 = .ok (.aaload, 1) := by decide +kernel
theorem d_A_fateOf_47 : decode b_A_fateOf 47 = .ok (.aload_n 0, 1) := by decide +kernel
theorem d_A_fateOf_48 : decode b_A_fateOf 48 = .ok (.getfield 16, 3) := by decide +kernel
theorem d_A_fateOf_51 : decode b_A_fateOf 51 = .ok (.invokevirtual 163, 3) := by decide +kernel
theorem d_A_fateOf_54 : decode b_A_fateOf 54 = .ok (.ireturn, 1) := by decide +kernel
theorem d_A_isError_0 : decode b_A_isError 0 = .ok (.iload_n 0, 1) := by decide +kernel
theorem d_A_isError_1 : decode b_A_isError 1 = .ok (.bipush (-3), 2) := by decide +kernel
theorem d_A_isError_3 : decode b_A_isError 3 = .ok (.if_icmp .eq 15, 3) := by decide +kernel
theorem d_A_isError_6 : decode b_A_isError 6 = .ok (.iload_n 0, 1) := by decide +kernel
theorem d_A_isError_7 : decode b_A_isError 7 = .ok (.bipush (-4), 2) := by decide +kernel
theorem d_A_isError_9 : decode b_A_isError 9 = .ok (.if_icmp .eq 9, 3) := by decide +kernel
theorem d_A_isError_12 : decode b_A_isError 12 = .ok (.iload_n 0, 1) := by decide +kernel
theorem d_A_isError_13 : decode b_A_isError 13 = .ok (.bipush (-5), 2) := by decide +kernel
theorem d_A_isError_15 : decode b_A_isError 15 = .ok (.if_icmp .ne 7, 3) := by decide +kernel
theorem d_A_isError_18 : decode b_A_isError 18 = .ok (.iconst 1, 1) := by decide +kernel
theorem d_A_isError_19 : decode b_A_isError 19 = .ok (.goto 4, 3) := by decide +kernel
theorem d_A_isError_22 : decode b_A_isError 22 = .ok (.iconst 0, 1) := by decide +kernel
theorem d_A_isError_23 : decode b_A_isError 23 = .ok (.ireturn, 1) := by decide +kernel
theorem d_A_breaks_0 : decode b_A_breaks 0 = .ok (.iload_n 0, 1) := by decide +kernel
theorem d_A_breaks_1 : decode b_A_breaks 1 = .ok (.ifCond .ge 14, 3) := by decide +kernel
theorem d_A_breaks_4 : decode b_A_breaks 4 = .ok (.iload_n 0, 1) := by decide +kernel
theorem d_A_breaks_5 : decode b_A_breaks 5 = .ok (.invokestatic 133, 3) := by decide +kernel
theorem d_A_breaks_8 : decode b_A_breaks 8 = .ok (.ifCond .ne 7, 3) := by decide +kernel
theorem d_A_breaks_11 : decode b_A_breaks 11 = .ok (.iconst 1, 1) := by decide +kernel
theorem d_A_breaks_12 : decode b_A_breaks 12 = .ok (.goto 4, 3) := by decide +kernel
theorem d_A_breaks_15 : decode b_A_breaks 15 = .ok (.iconst 0, 1) := by decide +kernel
theorem d_A_breaks_16 : decode b_A_breaks 16 = .ok (.ireturn, 1) := by decide +kernel
theorem d_A_isBelow_0 : decode b_A_isBelow 0 = .ok (.iload_n 0, 1) := by decide +kernel
theorem d_A_isBelow_1 : decode b_A_isBelow 1 = .ok (.ifCond .lt 12, 3) := by decide +kernel
theorem d_A_isBelow_4 : decode b_A_isBelow 4 = .ok (.iload_n 0, 1) := by decide +kernel
theorem d_A_isBelow_5 : decode b_A_isBelow 5 = .ok (.iload_n 1, 1) := by decide +kernel
theorem d_A_isBelow_6 : decode b_A_isBelow 6 = .ok (.if_icmp .ge 7, 3) := by decide +kernel
theorem d_A_isBelow_9 : decode b_A_isBelow 9 = .ok (.iconst 1, 1) := by decide +kernel
theorem d_A_isBelow_10 : decode b_A_isBelow 10 = .ok (.goto 4, 3) := by decide +kernel
theorem d_A_isBelow_13 : decode b_A_isBelow 13 = .ok (.iconst 0, 1) := by decide +kernel
theorem d_A_isBelow_14 : decode b_A_isBelow 14 = .ok (.ireturn, 1) := by decide +kernel
theorem d_A_areFieldFlags_0 : decode b_A_areFieldFlags 0 = .ok (.iload_n 0, 1) := by decide +kernel
theorem d_A_areFieldFlags_1 : decode b_A_areFieldFlags 1 = .ok (.bipush 32, 2) := by decide +kernel
theorem d_A_areFieldFlags_3 : decode b_A_areFieldFlags 3 = .ok (.invokestatic 40, 3) := by decide +kernel
theorem d_A_areFieldFlags_6 : decode b_A_areFieldFlags 6 = .ok (.ifCond .eq 9, 3) := by decide +kernel
theorem d_A_areFieldFlags_9 : decode b_A_areFieldFlags 9 = .ok (.iload_n 0, 1) := by decide +kernel
theorem d_A_areFieldFlags_10 : decode b_A_areFieldFlags 10 = .ok (.iconst 2, 1) := by decide +kernel
theorem d_A_areFieldFlags_11 : decode b_A_areFieldFlags 11 = .ok (.iand, 1) := by decide +kernel
theorem d_A_areFieldFlags_12 : decode b_A_areFieldFlags 12 = .ok (.ifCond .eq 5, 3) := by decide +kernel
theorem d_A_areFieldFlags_15 : decode b_A_areFieldFlags 15 = .ok (.iconst 0, 1) := by decide +kernel
theorem d_A_areFieldFlags_16 : decode b_A_areFieldFlags 16 = .ok (.ireturn, 1) := by decide +kernel
theorem d_A_areFieldFlags_17 : decode b_A_areFieldFlags 17 = .ok (.iconst 5, 1) := by decide +kernel
theorem d_A_areFieldFlags_18 : decode b_A_areFieldFlags 18 = .ok (.istore_n 1, 1) := by decide +kernel
theorem d_A_areFieldFlags_19 : decode b_A_areFieldFlags 19 = .ok (.iload_n 0, 1) := by decide +kernel
theorem d_A_areFieldFlags_20 : decode b_A_areFieldFlags 20 = .ok (.bipush 16, 2) := by decide +kernel
theorem d_A_areFieldFlags_22 : decode b_A_areFieldFlags 22 = .ok (.iand, 1) := by decide +kernel
theorem d_A_areFieldFlags_23 : decode b_A_areFieldFlags 23 = .ok (.ifCond .eq 10, 3) := by decide +kernel
theorem d_A_areFieldFlags_26 : decode b_A_areFieldFlags 26 = .ok (.iload_n 0, 1) := by decide +kernel
theorem d_A_areFieldFlags_27 : decode b_A_areFieldFlags 27 = .ok (.iload_n 1, 1) := by decide +kernel
theorem d_A_areFieldFlags_28 : decode b_A_areFieldFlags 28 = .ok (.iand, 1) := by decide +kernel
theorem d_A_areFieldFlags_29 : decode b_A_areFieldFlags 29 = .ok (.iload_n 1, 1) := by decide +kernel
theorem d_A_areFieldFlags_30 : decode b_A_areFieldFlags 30 = .ok (.if_icmp .ne 7, 3) := by decide +kernel
theorem d_A_areFieldFlags_33 : decode b_A_areFieldFlags 33 = .ok (.iconst 1, 1) := by decide +kernel
theorem d_A_areFieldFlags_34 : decode b_A_areFieldFlags 34 = .ok (.goto 4, 3) := by decide +kernel
theorem d_A_areFieldFlags_37 : decode b_A_areFieldFlags 37 = .ok (.iconst 0, 1) := by decide +kernel
theorem d_A_areFieldFlags_38 : decode b_A_areFieldFlags 38 = .ok (.ireturn, 1) := by decide +kernel
theorem d_A_areMethodFlags_0 : decode b_A_areMethodFlags 0 = .ok (.iload_n 0, 1) := by decide +kernel
theorem d_A_areMethodFlags_1 : decode b_A_areMethodFlags 1 = .ok (.bipush 16, 2) := by decide +kernel
theorem d_A_areMethodFlags_3 : decode b_A_areMethodFlags 3 = .ok (.invokestatic 40, 3) := by decide +kernel
theorem d_A_areMethodFlags_6 : decode b_A_areMethodFlags 6 = .ok (.ifCond .ne 5, 3) := by decide +kernel
theorem d_A_areMethodFlags_9 : decode b_A_areMethodFlags 9 = .ok (.iconst 0, 1) := by decide +kernel
theorem d_A_areMethodFlags_10 : decode b_A_areMethodFlags 10 = .ok (.ireturn, 1) := by decide +kernel
theorem d_A_areMethodFlags_11 : decode b_A_areMethodFlags 11 = .ok (.iload_n 0, 1) := by decide +kernel
theorem d_A_areMethodFlags_12 : decode b_A_areMethodFlags 12 = .ok (.iconst 2, 1) := by decide +kernel
theorem d_A_areMethodFlags_13 : decode b_A_areMethodFlags 13 = .ok (.iand, 1) := by decide +kernel
theorem d_A_areMethodFlags_14 : decode b_A_areMethodFlags 14 = .ok (.ifCond .eq 8, 3) := by decide +kernel
theorem d_A_areMethodFlags_17 : decode b_A_areMethodFlags 17 = .ok (.iload_n 0, 1) := by decide +kernel
theorem d_A_areMethodFlags_18 : decode b_A_areMethodFlags 18 = .ok (.iconst 2, 1) := by decide +kernel
theorem d_A_areMethodFlags_19 : decode b_A_areMethodFlags 19 = .ok (.if_icmp .ne 7, 3) := by decide +kernel
theorem d_A_areMethodFlags_22 : decode b_A_areMethodFlags 22 = .ok (.iconst 1, 1) := by decide +kernel
theorem d_A_areMethodFlags_23 : decode b_A_areMethodFlags 23 = .ok (.goto 4, 3) := by decide +kernel
theorem d_A_areMethodFlags_26 : decode b_A_areMethodFlags 26 = .ok (.iconst 0, 1) := by decide +kernel
theorem d_A_areMethodFlags_27 : decode b_A_areMethodFlags 27 = .ok (.ireturn, 1) := by decide +kernel
theorem d_A_methodPlace_0 : decode b_A_methodPlace 0 = .ok (.iload_n 0, 1) := by decide +kernel
theorem d_A_methodPlace_1 : decode b_A_methodPlace 1 = .ok (.bipush 12, 2) := by decide +kernel
theorem d_A_methodPlace_3 : decode b_A_methodPlace 3 = .ok (.imul, 1) := by decide +kernel
theorem d_A_methodPlace_4 : decode b_A_methodPlace 4 = .ok (.iload_n 1, 1) := by decide +kernel
theorem d_A_methodPlace_5 : decode b_A_methodPlace 5 = .ok (.iconst 4, 1) := by decide +kernel
theorem d_A_methodPlace_6 : decode b_A_methodPlace 6 = .ok (.imul, 1) := by decide +kernel
theorem d_A_methodPlace_7 : decode b_A_methodPlace 7 = .ok (.iadd, 1) := by decide +kernel
theorem d_A_methodPlace_8 : decode b_A_methodPlace 8 = .ok (.iload_n 2, 1) := by decide +kernel
theorem d_A_methodPlace_9 : decode b_A_methodPlace 9 = .ok (.iadd, 1) := by decide +kernel
theorem d_A_methodPlace_10 : decode b_A_methodPlace 10 = .ok (.ireturn, 1) := by decide +kernel
theorem d_A_holds_0 : decode b_A_holds 0 = .ok (.iload_n 0, 1) := by decide +kernel
theorem d_A_holds_1 : decode b_A_holds 1 = .ok (.iload_n 1, 1) := by decide +kernel
theorem d_A_holds_2 : decode b_A_holds 2 = .ok (.ishr, 1) := by decide +kernel
theorem d_A_holds_3 : decode b_A_holds 3 = .ok (.iconst 1, 1) := by decide +kernel
theorem d_A_holds_4 : decode b_A_holds 4 = .ok (.iand, 1) := by decide +kernel
theorem d_A_holds_5 : decode b_A_holds 5 = .ok (.ifCond .eq 7, 3) := by decide +kernel
theorem d_A_holds_8 : decode b_A_holds 8 = .ok (.iconst 1, 1) := by decide +kernel
theorem d_A_holds_9 : decode b_A_holds 9 = .ok (.goto 4, 3) := by decide +kernel
theorem d_A_holds_12 : decode b_A_holds 12 = .ok (.iconst 0, 1) := by decide +kernel
theorem d_A_holds_13 : decode b_A_holds 13 = .ok (.ireturn, 1) := by decide +kernel
theorem d_A_howManyThere_0 : decode b_A_howManyThere 0 = .ok (.iconst 0, 1) := by decide +kernel
theorem d_A_howManyThere_1 : decode b_A_howManyThere 1 = .ok (.istore_n 1, 1) := by decide +kernel
theorem d_A_howManyThere_2 : decode b_A_howManyThere 2 = .ok (.iconst 0, 1) := by decide +kernel
theorem d_A_howManyThere_3 : decode b_A_howManyThere 3 = .ok (.istore_n 2, 1) := by decide +kernel
theorem d_A_howManyThere_4 : decode b_A_howManyThere 4 = .ok (.iload_n 2, 1) := by decide +kernel
theorem d_A_howManyThere_5 : decode b_A_howManyThere 5 = .ok (.aload_n 0, 1) := by decide +kernel
theorem d_A_howManyThere_6 : decode b_A_howManyThere 6 = .ok (.arraylength, 1) := by decide +kernel
theorem d_A_howManyThere_7 : decode b_A_howManyThere 7 = .ok (.if_icmp .ge 19, 3) := by decide +kernel
theorem d_A_howManyThere_10 : decode b_A_howManyThere 10 = .ok (.aload_n 0, 1) := by decide +kernel
theorem d_A_howManyThere_11 : decode b_A_howManyThere 11 = .ok (.iload_n 2, 1) := by decide +kernel
theorem d_A_howManyThere_12 : decode b_A_howManyThere 12 = .ok (.iaload, 1) := by decide +kernel
theorem d_A_howManyThere_13 : decode b_A_howManyThere 13 = .ok (.iconst (-1), 1) := by decide +kernel
theorem d_A_howManyThere_14 : decode b_A_howManyThere 14 = .ok (.if_icmp .eq 6, 3) := by decide +kernel
theorem d_A_howManyThere_17 : decode b_A_howManyThere 17 = .ok (.iinc 1 1, 3) := by decide +kernel
theorem d_A_howManyThere_20 : decode b_A_howManyThere 20 = .ok (.iinc 2 1, 3) := by decide +kernel
theorem d_A_howManyThere_23 : decode b_A_howManyThere 23 = .ok (.goto (-19), 3) := by decide +kernel
theorem d_A_howManyThere_26 : decode b_A_howManyThere 26 = .ok (.iload_n 1, 1) := by decide +kernel
theorem d_A_howManyThere_27 : decode b_A_howManyThere 27 = .ok (.ireturn, 1) := by decide +kernel
theorem d_M_init_0 : decode b_M_init 0 = .ok (.aload_n 0, 1) := by decide +kernel
theorem d_M_init_1 : decode b_M_init 1 = .ok (.invokespecial 1, 3) := by decide +kernel
theorem d_M_init_4 : decode b_M_init 4 = .ok (.aload_n 0, 1) := by decide +kernel
theorem d_M_init_5 : decode b_M_init 5 = .ok (.bipush 12, 2) := by decide +kernel
theorem d_M_init_7 : decode b_M_init 7 = .ok (.newarray .boolean, 2) := by decide +kernel
theorem d_M_init_9 : decode b_M_init 9 = .ok (.putfield 7, 3) := by decide +kernel
theorem d_M_init_12 : decode b_M_init 12 = .ok (.aload_n 0, 1) := by decide +kernel
theorem d_M_init_13 : decode b_M_init 13 = .ok (.bipush 12, 2) := by decide +kernel
theorem d_M_init_15 : decode b_M_init 15 = .ok (.newarray .int, 2) := by decide +kernel
theorem d_M_init_17 : decode b_M_init 17 = .ok (.putfield 13, 3) := by decide +kernel
theorem d_M_init_20 : decode b_M_init 20 = .ok (.aload_n 0, 1) := by decide +kernel
theorem d_M_init_21 : decode b_M_init 21 = .ok (.bipush 12, 2) := by decide +kernel
theorem d_M_init_23 : decode b_M_init 23 = .ok (.newarray .int, 2) := by decide +kernel
theorem d_M_init_25 : decode b_M_init 25 = .ok (.putfield 17, 3) := by decide +kernel
theorem d_M_init_28 : decode b_M_init 28 = .ok (.aload_n 0, 1) := by decide +kernel
theorem d_M_init_29 : decode b_M_init 29 = .ok (.bipush 12, 2) := by decide +kernel
theorem d_M_init_31 : decode b_M_init 31 = .ok (.newarray .int, 2) := by decide +kernel
theorem d_M_init_33 : decode b_M_init 33 = .ok (.putfield 20, 3) := by decide +kernel
theorem d_M_init_36 : decode b_M_init 36 = .ok (.aload_n 0, 1) := by decide +kernel
theorem d_M_init_37 : decode b_M_init 37 = .ok (.bipush 48, 2) := by decide +kernel
theorem d_M_init_39 : decode b_M_init 39 = .ok (.newarray .int, 2) := by decide +kernel
theorem d_M_init_41 : decode b_M_init 41 = .ok (.putfield 23, 3) := by decide +kernel
theorem d_M_init_44 : decode b_M_init 44 = .ok (.aload_n 0, 1) := by decide +kernel
theorem d_M_init_45 : decode b_M_init 45 = .ok (.bipush 48, 2) := by decide +kernel
theorem d_M_init_47 : decode b_M_init 47 = .ok (.newarray .int, 2) := by decide +kernel
theorem d_M_init_49 : decode b_M_init 49 = .ok (.putfield 26, 3) := by decide +kernel
theorem d_M_init_52 : decode b_M_init 52 = .ok (.aload_n 0, 1) := by decide +kernel
theorem d_M_init_53 : decode b_M_init 53 = .ok (.bipush 48, 2) := by decide +kernel
theorem d_M_init_55 : decode b_M_init 55 = .ok (.newarray .int, 2) := by decide +kernel
theorem d_M_init_57 : decode b_M_init 57 = .ok (.putfield 29, 3) := by decide +kernel
theorem d_M_init_60 : decode b_M_init 60 = .ok (.aload_n 0, 1) := by decide +kernel
theorem d_M_init_61 : decode b_M_init 61 = .ok (.sipush 144, 3) := by decide +kernel
theorem d_M_init_64 : decode b_M_init 64 = .ok (.newarray .int, 2) := by decide +kernel
theorem d_M_init_66 : decode b_M_init 66 = .ok (.putfield 32, 3) := by decide +kernel
theorem d_M_init_69 : decode b_M_init 69 = .ok (.aload_n 0, 1) := by decide +kernel
theorem d_M_init_70 : decode b_M_init 70 = .ok (.sipush 144, 3) := by decide +kernel
theorem d_M_init_73 : decode b_M_init 73 = .ok (.newarray .int, 2) := by decide +kernel
theorem d_M_init_75 : decode b_M_init 75 = .ok (.putfield 35, 3) := by decide +kernel
theorem d_M_init_78 : decode b_M_init 78 = .ok (.aload_n 0, 1) := by decide +kernel
theorem d_M_init_79 : decode b_M_init 79 = .ok (.bipush 64, 2) := by decide +kernel
theorem d_M_init_81 : decode b_M_init 81 = .ok (.newarray .int, 2) := by decide +kernel
theorem d_M_init_83 : decode b_M_init 83 = .ok (.putfield 38, 3) := by decide +kernel
theorem d_M_init_86 : decode b_M_init 86 = .ok (.aload_n 0, 1) := by decide +kernel
theorem d_M_init_87 : decode b_M_init 87 = .ok (.bipush 14, 2) := by decide +kernel
theorem d_M_init_89 : decode b_M_init 89 = .ok (.newarray .int, 2) := by decide +kernel
theorem d_M_init_91 : decode b_M_init 91 = .ok (.putfield 41, 3) := by decide +kernel
theorem d_M_init_94 : decode b_M_init 94 = .ok (.aload_n 0, 1) := by decide +kernel
theorem d_M_init_95 : decode b_M_init 95 = .ok (.sipush 200, 3) := by decide +kernel
theorem d_M_init_98 : decode b_M_init 98 = .ok (.newarray .int, 2) := by decide +kernel
theorem d_M_init_100 : decode b_M_init 100 = .ok (.putfield 44, 3) := by decide +kernel
theorem d_M_init_103 : decode b_M_init 103 = .ok (.iconst 0, 1) := by decide +kernel
theorem d_M_init_104 : decode b_M_init 104 = .ok (.istore_n 1, 1) := by decide +kernel
theorem d_M_init_105 : decode b_M_init 105 = .ok (.iload_n 1, 1) := by decide +kernel
theorem d_M_init_106 : decode b_M_init 106 = .ok (.bipush 48, 2) := by decide +kernel
theorem d_M_init_108 : decode b_M_init 108 = .ok (.if_icmp .ge 16, 3) := by decide +kernel
theorem d_M_init_111 : decode b_M_init 111 = .ok (.aload_n 0, 1) := by decide +kernel
theorem d_M_init_112 : decode b_M_init 112 = .ok (.getfield 23, 3) := by decide +kernel
theorem d_M_init_115 : decode b_M_init 115 = .ok (.iload_n 1, 1) := by decide +kernel
theorem d_M_init_116 : decode b_M_init 116 = .ok (.iconst (-1), 1) := by decide +kernel
theorem d_M_init_117 : decode b_M_init 117 = .ok (.iastore, 1) := by decide +kernel
theorem d_M_init_118 : decode b_M_init 118 = .ok (.iinc 1 1, 3) := by decide +kernel
theorem d_M_init_121 : decode b_M_init 121 = .ok (.goto (-16), 3) := by decide +kernel
theorem d_M_init_124 : decode b_M_init 124 = .ok (.iconst 0, 1) := by decide +kernel
theorem d_M_init_125 : decode b_M_init 125 = .ok (.istore_n 1, 1) := by decide +kernel
theorem d_M_init_126 : decode b_M_init 126 = .ok (.iload_n 1, 1) := by decide +kernel
theorem d_M_init_127 : decode b_M_init 127 = .ok (.sipush 144, 3) := by decide +kernel
theorem d_M_init_130 : decode b_M_init 130 = .ok (.if_icmp .ge 16, 3) := by decide +kernel
theorem d_M_init_133 : decode b_M_init 133 = .ok (.aload_n 0, 1) := by decide +kernel
theorem d_M_init_134 : decode b_M_init 134 = .ok (.getfield 32, 3) := by decide +kernel
theorem d_M_init_137 : decode b_M_init 137 = .ok (.iload_n 1, 1) := by decide +kernel
theorem d_M_init_138 : decode b_M_init 138 = .ok (.iconst (-1), 1) := by decide +kernel
theorem d_M_init_139 : decode b_M_init 139 = .ok (.iastore, 1) := by decide +kernel
theorem d_M_init_140 : decode b_M_init 140 = .ok (.iinc 1 1, 3) := by decide +kernel
theorem d_M_init_143 : decode b_M_init 143 = .ok (.goto (-17), 3) := by decide +kernel
theorem d_M_init_146 : decode b_M_init 146 = .ok (.return_, 1) := by decide +kernel
theorem d_M_in_0 : decode b_M_in 0 = .ok (.iload_n 0, 1) := by decide +kernel
theorem d_M_in_1 : decode b_M_in 1 = .ok (.iload_n 1, 1) := by decide +kernel
theorem d_M_in_2 : decode b_M_in 2 = .ok (.if_icmp .lt 12, 3) := by decide +kernel
theorem d_M_in_5 : decode b_M_in 5 = .ok (.iload_n 0, 1) := by decide +kernel
theorem d_M_in_6 : decode b_M_in 6 = .ok (.iload_n 2, 1) := by decide +kernel
theorem d_M_in_7 : decode b_M_in 7 = .ok (.if_icmp .gt 7, 3) := by decide +kernel
theorem d_M_in_10 : decode b_M_in 10 = .ok (.iconst 1, 1) := by decide +kernel
theorem d_M_in_11 : decode b_M_in 11 = .ok (.goto 4, 3) := by decide +kernel
theorem d_M_in_14 : decode b_M_in 14 = .ok (.iconst 0, 1) := by decide +kernel
theorem d_M_in_15 : decode b_M_in 15 = .ok (.ireturn, 1) := by decide +kernel
theorem d_M_bit_0 : decode b_M_bit 0 = .ok (.iload_n 0, 1) := by decide +kernel
theorem d_M_bit_1 : decode b_M_bit 1 = .ok (.iload_n 1, 1) := by decide +kernel
theorem d_M_bit_2 : decode b_M_bit 2 = .ok (.iand, 1) := by decide +kernel
theorem d_M_bit_3 : decode b_M_bit 3 = .ok (.ifCond .eq 7, 3) := by decide +kernel
theorem d_M_bit_6 : decode b_M_bit 6 = .ok (.iconst 1, 1) := by decide +kernel
theorem d_M_bit_7 : decode b_M_bit 7 = .ok (.goto 4, 3) := by decide +kernel
theorem d_M_bit_10 : decode b_M_bit 10 = .ok (.iconst 0, 1) := by decide +kernel
theorem d_M_bit_11 : decode b_M_bit 11 = .ok (.ireturn, 1) := by decide +kernel
theorem d_M_named_0 : decode b_M_named 0 = .ok (.iconst 0, 1) := by decide +kernel
theorem d_M_named_1 : decode b_M_named 1 = .ok (.istore_n 3, 1) := by decide +kernel
theorem d_M_named_2 : decode b_M_named 2 = .ok (.iload_n 3, 1) := by decide +kernel
theorem d_M_named_3 : decode b_M_named 3 = .ok (.bipush 6, 2) := by decide +kernel
theorem d_M_named_5 : decode b_M_named 5 = .ok (.if_icmp .ge 59, 3) := by decide +kernel
theorem d_M_named_8 : decode b_M_named 8 = .ok (.bipush 6, 2) := by decide +kernel
theorem d_M_named_10 : decode b_M_named 10 = .ok (.iload_n 1, 1) := by decide +kernel
theorem d_M_named_11 : decode b_M_named 11 = .ok (.imul, 1) := by decide +kernel
theorem d_M_named_12 : decode b_M_named 12 = .ok (.iload_n 3, 1) := by decide +kernel
theorem d_M_named_13 : decode b_M_named 13 = .ok (.iadd, 1) := by decide +kernel
theorem d_M_named_14 : decode b_M_named 14 = .ok (.istore 4, 2) := by decide +kernel
theorem d_M_named_16 : decode b_M_named 16 = .ok (.aload_n 0, 1) := by decide +kernel
theorem d_M_named_17 : decode b_M_named 17 = .ok (.getfield 7, 3) := by decide +kernel
theorem d_M_named_20 : decode b_M_named 20 = .ok (.iload 4, 2) := by decide +kernel
theorem d_M_named_22 : decode b_M_named 22 = .ok (.baload, 1) := by decide +kernel
theorem d_M_named_23 : decode b_M_named 23 = .ok (.ifCond .eq 35, 3) := by decide +kernel
theorem d_M_named_26 : decode b_M_named 26 = .ok (.iload_n 3, 1) := by decide +kernel
theorem d_M_named_27 : decode b_M_named 27 = .ok (.iload_n 2, 1) := by decide +kernel
theorem d_M_named_28 : decode b_M_named 28 = .ok (.if_icmp .eq 30, 3) := by decide +kernel
theorem d_M_named_31 : decode b_M_named 31 = .ok (.aload_n 0, 1) := by decide +kernel
theorem d_M_named_32 : decode b_M_named 32 = .ok (.getfield 17, 3) := by decide +kernel
theorem d_M_named_35 : decode b_M_named 35 = .ok (.iload 4, 2) := by decide +kernel
theorem d_M_named_37 : decode b_M_named 37 = .ok (.iaload, 1) := by decide +kernel
theorem d_M_named_38 : decode b_M_named 38 = .ok (.iload_n 2, 1) := by decide +kernel
theorem d_M_named_39 : decode b_M_named 39 = .ok (.if_icmp .eq 17, 3) := by decide +kernel
theorem d_M_named_42 : decode b_M_named 42 = .ok (.aload_n 0, 1) := by decide +kernel
theorem d_M_named_43 : decode b_M_named 43 = .ok (.getfield 20, 3) := by decide +kernel
theorem d_M_named_46 : decode b_M_named 46 = .ok (.iload 4, 2) := by decide +kernel
theorem d_M_named_48 : decode b_M_named 48 = .ok (.iaload, 1) := by decide +kernel
theorem d_M_named_49 : decode b_M_named 49 = .ok (.iload_n 2, 1) := by decide +kernel
theorem d_M_named_50 : decode b_M_named 50 = .ok (.ishr, 1) := by decide +kernel
theorem d_M_named_51 : decode b_M_named 51 = .ok (.iconst 1, 1) := by decide +kernel
theorem d_M_named_52 : decode b_M_named 52 = .ok (.iand, 1) := by decide +kernel
theorem d_M_named_53 : decode b_M_named 53 = .ok (.ifCond .eq 5, 3) := by decide +kernel
theorem d_M_named_56 : decode b_M_named 56 = .ok (.iconst 1, 1) := by decide +kernel
theorem d_M_named_57 : decode b_M_named 57 = .ok (.ireturn, 1) := by decide +kernel
theorem d_M_named_58 : decode b_M_named 58 = .ok (.iinc 3 1, 3) := by decide +kernel
theorem d_M_named_61 : decode b_M_named 61 = .ok (.goto (-59), 3) := by decide +kernel
theorem d_M_named_64 : decode b_M_named 64 = .ok (.iconst 0, 1) := by decide +kernel
theorem d_M_named_65 : decode b_M_named 65 = .ok (.ireturn, 1) := by decide +kernel
theorem d_M_parentsRight_0 : decode b_M_parentsRight 0 = .ok (.bipush 6, 2) := by decide +kernel
theorem d_M_parentsRight_2 : decode b_M_parentsRight 2 = .ok (.iload_n 1, 1) := by decide +kernel
theorem d_M_parentsRight_3 : decode b_M_parentsRight 3 = .ok (.imul, 1) := by decide +kernel
theorem d_M_parentsRight_4 : decode b_M_parentsRight 4 = .ok (.istore 5, 2) := by decide +kernel
theorem d_M_parentsRight_6 : decode b_M_parentsRight 6 = .ok (.iload_n 3, 1) := by decide +kernel
theorem d_M_parentsRight_7 : decode b_M_parentsRight 7 = .ok (.bipush 6, 2) := by decide +kernel
theorem d_M_parentsRight_9 : decode b_M_parentsRight 9 = .ok (.if_icmp .ge 36, 3) := by decide +kernel
theorem d_M_parentsRight_12 : decode b_M_parentsRight 12 = .ok (.iload_n 3, 1) := by decide +kernel
theorem d_M_parentsRight_13 : decode b_M_parentsRight 13 = .ok (.iload_n 2, 1) := by decide +kernel
theorem d_M_parentsRight_14 : decode b_M_parentsRight 14 = .ok (.if_icmp .ge 29, 3) := by decide +kernel
theorem d_M_parentsRight_17 : decode b_M_parentsRight 17 = .ok (.aload_n 0, 1) := by decide +kernel
theorem d_M_parentsRight_18 : decode b_M_parentsRight 18 = .ok (.getfield 7, 3) := by decide +kernel
theorem d_M_parentsRight_21 : decode b_M_parentsRight 21 = .ok (.iload 5, 2) := by decide +kernel
theorem d_M_parentsRight_23 : decode b_M_parentsRight 23 = .ok (.iload_n 3, 1) := by decide +kernel
theorem d_M_parentsRight_24 : decode b_M_parentsRight 24 = .ok (.iadd, 1) := by decide +kernel
theorem d_M_parentsRight_25 : decode b_M_parentsRight 25 = .ok (.baload, 1) := by decide +kernel
theorem d_M_parentsRight_26 : decode b_M_parentsRight 26 = .ok (.ifCond .eq 17, 3) := by decide +kernel
theorem d_M_parentsRight_29 : decode b_M_parentsRight 29 = .ok (.aload_n 0, 1) := by decide +kernel
theorem d_M_parentsRight_30 : decode b_M_parentsRight 30 = .ok (.getfield 13, 3) := by decide +kernel
theorem d_M_parentsRight_33 : decode b_M_parentsRight 33 = .ok (.iload 5, 2) := by decide +kernel
theorem d_M_parentsRight_35 : decode b_M_parentsRight 35 = .ok (.iload_n 3, 1) := by decide +kernel
theorem d_M_parentsRight_36 : decode b_M_parentsRight 36 = .ok (.iadd, 1) := by decide +kernel
theorem d_M_parentsRight_37 : decode b_M_parentsRight 37 = .ok (.iaload, 1) := by decide +kernel
theorem d_M_parentsRight_38 : decode b_M_parentsRight 38 = .ok (.iconst 1, 1) := by decide +kernel
theorem d_M_parentsRight_39 : decode b_M_parentsRight 39 = .ok (.iand, 1) := by decide +kernel
theorem d_M_parentsRight_40 : decode b_M_parentsRight 40 = .ok (.ifCond .eq 5, 3) := by decide +kernel
theorem d_M_parentsRight_43 : decode b_M_parentsRight 43 = .ok (.iconst 0, 1) := by decide +kernel
theorem d_M_parentsRight_44 : decode b_M_parentsRight 44 = .ok (.ireturn, 1) := by decide +kernel
theorem d_M_parentsRight_45 : decode b_M_parentsRight 45 = .ok (.iconst 0, 1) := by decide +kernel
theorem d_M_parentsRight_46 : decode b_M_parentsRight 46 = .ok (.istore 6, 2) := by decide +kernel
theorem d_M_parentsRight_48 : decode b_M_parentsRight 48 = .ok (.iload 6, 2) := by decide +kernel
theorem d_M_parentsRight_50 : decode b_M_parentsRight 50 = .ok (.bipush 6, 2) := by decide +kernel
theorem d_M_parentsRight_52 : decode b_M_parentsRight 52 = .ok (.if_icmp .ge 67, 3) := by decide +kernel
theorem d_M_parentsRight_55 : decode b_M_parentsRight 55 = .ok (.iload 4, 2) := by decide +kernel
theorem d_M_parentsRight_57 : decode b_M_parentsRight 57 = .ok (.iload 6, 2) := by decide +kernel
theorem d_M_parentsRight_59 : decode b_M_parentsRight 59 = .ok (.ishr, 1) := by decide +kernel
theorem d_M_parentsRight_60 : decode b_M_parentsRight 60 = .ok (.iconst 1, 1) := by decide +kernel
theorem d_M_parentsRight_61 : decode b_M_parentsRight 61 = .ok (.iand, 1) := by decide +kernel
theorem d_M_parentsRight_62 : decode b_M_parentsRight 62 = .ok (.ifCond .eq 7, 3) := by decide +kernel
theorem d_M_parentsRight_65 : decode b_M_parentsRight 65 = .ok (.iconst 1, 1) := by decide +kernel
theorem d_M_parentsRight_66 : decode b_M_parentsRight 66 = .ok (.goto 4, 3) := by decide +kernel
theorem d_M_parentsRight_69 : decode b_M_parentsRight 69 = .ok (.iconst 0, 1) := by decide +kernel
theorem d_M_parentsRight_70 : decode b_M_parentsRight 70 = .ok (.istore 7, 2) := by decide +kernel
theorem d_M_parentsRight_72 : decode b_M_parentsRight 72 = .ok (.iload 7, 2) := by decide +kernel
theorem d_M_parentsRight_74 : decode b_M_parentsRight 74 = .ok (.ifCond .eq 39, 3) := by decide +kernel
theorem d_M_parentsRight_77 : decode b_M_parentsRight 77 = .ok (.iload 6, 2) := by decide +kernel
theorem d_M_parentsRight_79 : decode b_M_parentsRight 79 = .ok (.iload_n 2, 1) := by decide +kernel
theorem d_M_parentsRight_80 : decode b_M_parentsRight 80 = .ok (.if_icmp .ge 31, 3) := by decide +kernel
theorem d_M_parentsRight_83 : decode b_M_parentsRight 83 = .ok (.aload_n 0, 1) := by decide +kernel
theorem d_M_parentsRight_84 : decode b_M_parentsRight 84 = .ok (.getfield 7, 3) := by decide +kernel
theorem d_M_parentsRight_87 : decode b_M_parentsRight 87 = .ok (.iload 5, 2) := by decide +kernel
theorem d_M_parentsRight_89 : decode b_M_parentsRight 89 = .ok (.iload 6, 2) := by decide +kernel
theorem d_M_parentsRight_91 : decode b_M_parentsRight 91 = .ok (.iadd, 1) := by decide +kernel
theorem d_M_parentsRight_92 : decode b_M_parentsRight 92 = .ok (.baload, 1) := by decide +kernel
theorem d_M_parentsRight_93 : decode b_M_parentsRight 93 = .ok (.ifCond .eq 18, 3) := by decide +kernel
theorem d_M_parentsRight_96 : decode b_M_parentsRight 96 = .ok (.aload_n 0, 1) := by decide +kernel
theorem d_M_parentsRight_97 : decode b_M_parentsRight 97 = .ok (.getfield 13, 3) := by decide +kernel
theorem d_M_parentsRight_100 : decode b_M_parentsRight 100 = .ok (.iload 5, 2) := by decide +kernel
theorem d_M_parentsRight_102 : decode b_M_parentsRight 102 = .ok (.iload 6, 2) := by decide +kernel
theorem d_M_parentsRight_104 : decode b_M_parentsRight 104 = .ok (.iadd, 1) := by decide +kernel
theorem d_M_parentsRight_105 : decode b_M_parentsRight 105 = .ok (.iaload, 1) := by decide +kernel
theorem d_M_parentsRight_106 : decode b_M_parentsRight 106 = .ok (.iconst 1, 1) := by decide +kernel
theorem d_M_parentsRight_107 : decode b_M_parentsRight 107 = .ok (.iand, 1) := by decide +kernel
theorem d_M_parentsRight_108 : decode b_M_parentsRight 108 = .ok (.ifCond .ne 5, 3) := by decide +kernel
theorem d_M_parentsRight_111 : decode b_M_parentsRight 111 = .ok (.iconst 0, 1) := by decide +kernel
theorem d_M_parentsRight_112 : decode b_M_parentsRight 112 = .ok (.ireturn, 1) := by decide +kernel
theorem d_M_parentsRight_113 : decode b_M_parentsRight 113 = .ok (.iinc 6 1, 3) := by decide +kernel
theorem d_M_parentsRight_116 : decode b_M_parentsRight 116 = .ok (.goto (-68), 3) := by decide +kernel
theorem d_M_parentsRight_119 : decode b_M_parentsRight 119 = .ok (.iconst 1, 1) := by decide +kernel
theorem d_M_parentsRight_120 : decode b_M_parentsRight 120 = .ok (.ireturn, 1) := by decide +kernel
theorem d_M_type_0 : decode b_M_type 0 = .ok (.iload_n 1, 1) := by decide +kernel
theorem d_M_type_1 : decode b_M_type 1 = .ok (.iconst 0, 1) := by decide +kernel
theorem d_M_type_2 : decode b_M_type 2 = .ok (.iconst 1, 1) := by decide +kernel
theorem d_M_type_3 : decode b_M_type 3 = .ok (.invokestatic 47, 3) := by decide +kernel
theorem d_M_type_6 : decode b_M_type 6 = .ok (.ifCond .eq 44, 3) := by decide +kernel
theorem d_M_type_9 : decode b_M_type 9 = .ok (.iload_n 2, 1) := by decide +kernel
theorem d_M_type_10 : decode b_M_type 10 = .ok (.iconst 0, 1) := by decide +kernel
theorem d_M_type_11 : decode b_M_type 11 = .ok (.iconst 5, 1) := by decide +kernel
theorem d_M_type_12 : decode b_M_type 12 = .ok (.invokestatic 47, 3) := by decide +kernel
theorem d_M_type_15 : decode b_M_type 15 = .ok (.ifCond .eq 35, 3) := by decide +kernel
theorem d_M_type_18 : decode b_M_type 18 = .ok (.iload_n 3, 1) := by decide +kernel
theorem d_M_type_19 : decode b_M_type 19 = .ok (.iconst 0, 1) := by decide +kernel
theorem d_M_type_20 : decode b_M_type 20 = .ok (.bipush 15, 2) := by decide +kernel
end
section
theorem d_M_type_22 : decode b_M_type 22 = .ok (.invokestatic 47, 3) := by decide +kernel
theorem d_M_type_25 : decode b_M_type 25 = .ok (.ifCond .eq 25, 3) := by decide +kernel
theorem d_M_type_28 : decode b_M_type 28 = .ok (.iload 4, 2) := by decide +kernel
theorem d_M_type_30 : decode b_M_type 30 = .ok (.iconst 0, 1) := by decide +kernel
theorem d_M_type_31 : decode b_M_type 31 = .ok (.bipush 6, 2) := by decide +kernel
theorem d_M_type_33 : decode b_M_type 33 = .ok (.invokestatic 47, 3) := by decide +kernel
theorem d_M_type_36 : decode b_M_type 36 = .ok (.ifCond .eq 14, 3) := by decide +kernel
theorem d_M_type_39 : decode b_M_type 39 = .ok (.iload 5, 2) := by decide +kernel
theorem d_M_type_41 : decode b_M_type 41 = .ok (.iconst 0, 1) := by decide +kernel
theorem d_M_type_42 : decode b_M_type 42 = .ok (.bipush 63, 2) := by decide +kernel
theorem d_M_type_44 : decode b_M_type 44 = .ok (.invokestatic 47, 3) := by decide +kernel
theorem d_M_type_47 : decode b_M_type 47 = .ok (.ifCond .ne 5, 3) := by decide +kernel
theorem d_M_type_50 : decode b_M_type 50 = .ok (.iconst (-1), 1) := by decide +kernel
theorem d_M_type_51 : decode b_M_type 51 = .ok (.ireturn, 1) := by decide +kernel
theorem d_M_type_52 : decode b_M_type 52 = .ok (.bipush 6, 2) := by decide +kernel
theorem d_M_type_54 : decode b_M_type 54 = .ok (.iload_n 1, 1) := by decide +kernel
theorem d_M_type_55 : decode b_M_type 55 = .ok (.imul, 1) := by decide +kernel
theorem d_M_type_56 : decode b_M_type 56 = .ok (.iload_n 2, 1) := by decide +kernel
theorem d_M_type_57 : decode b_M_type 57 = .ok (.iadd, 1) := by decide +kernel
theorem d_M_type_58 : decode b_M_type 58 = .ok (.istore 6, 2) := by decide +kernel
theorem d_M_type_60 : decode b_M_type 60 = .ok (.iload_n 3, 1) := by decide +kernel
theorem d_M_type_61 : decode b_M_type 61 = .ok (.iconst 1, 1) := by decide +kernel
theorem d_M_type_62 : decode b_M_type 62 = .ok (.iand, 1) := by decide +kernel
theorem d_M_type_63 : decode b_M_type 63 = .ok (.ifCond .eq 7, 3) := by decide +kernel
theorem d_M_type_66 : decode b_M_type 66 = .ok (.iconst 1, 1) := by decide +kernel
theorem d_M_type_67 : decode b_M_type 67 = .ok (.goto 4, 3) := by decide +kernel
theorem d_M_type_70 : decode b_M_type 70 = .ok (.iconst 0, 1) := by decide +kernel
theorem d_M_type_71 : decode b_M_type 71 = .ok (.istore 7, 2) := by decide +kernel
theorem d_M_type_73 : decode b_M_type 73 = .ok (.iload 7, 2) := by decide +kernel
theorem d_M_type_75 : decode b_M_type 75 = .ok (.ifCond .eq 16, 3) := by decide +kernel
theorem d_M_type_78 : decode b_M_type 78 = .ok (.iload 4, 2) := by decide +kernel
theorem d_M_type_80 : decode b_M_type 80 = .ok (.bipush 6, 2) := by decide +kernel
theorem d_M_type_82 : decode b_M_type 82 = .ok (.if_icmp .lt 22, 3) := by decide +kernel
theorem d_M_type_85 : decode b_M_type 85 = .ok (.iload_n 3, 1) := by decide +kernel
theorem d_M_type_86 : decode b_M_type 86 = .ok (.iconst 4, 1) := by decide +kernel
theorem d_M_type_87 : decode b_M_type 87 = .ok (.iand, 1) := by decide +kernel
theorem d_M_type_88 : decode b_M_type 88 = .ok (.ifCond .ne 16, 3) := by decide +kernel
theorem d_M_type_91 : decode b_M_type 91 = .ok (.aload_n 0, 1) := by decide +kernel
theorem d_M_type_92 : decode b_M_type 92 = .ok (.iload_n 1, 1) := by decide +kernel
theorem d_M_type_93 : decode b_M_type 93 = .ok (.iload_n 2, 1) := by decide +kernel
theorem d_M_type_94 : decode b_M_type 94 = .ok (.iload 4, 2) := by decide +kernel
theorem d_M_type_96 : decode b_M_type 96 = .ok (.iload 5, 2) := by decide +kernel
theorem d_M_type_98 : decode b_M_type 98 = .ok (.invokevirtual 51, 3) := by decide +kernel
theorem d_M_type_101 : decode b_M_type 101 = .ok (.ifCond .ne 5, 3) := by decide +kernel
theorem d_M_type_104 : decode b_M_type 104 = .ok (.iconst (-1), 1) := by decide +kernel
theorem d_M_type_105 : decode b_M_type 105 = .ok (.ireturn, 1) := by decide +kernel
theorem d_M_type_106 : decode b_M_type 106 = .ok (.aload_n 0, 1) := by decide +kernel
theorem d_M_type_107 : decode b_M_type 107 = .ok (.getfield 7, 3) := by decide +kernel
theorem d_M_type_110 : decode b_M_type 110 = .ok (.iload 6, 2) := by decide +kernel
theorem d_M_type_112 : decode b_M_type 112 = .ok (.baload, 1) := by decide +kernel
theorem d_M_type_113 : decode b_M_type 113 = .ok (.ifCond .eq 29, 3) := by decide +kernel
theorem d_M_type_116 : decode b_M_type 116 = .ok (.aload_n 0, 1) := by decide +kernel
theorem d_M_type_117 : decode b_M_type 117 = .ok (.getfield 13, 3) := by decide +kernel
theorem d_M_type_120 : decode b_M_type 120 = .ok (.iload 6, 2) := by decide +kernel
theorem d_M_type_122 : decode b_M_type 122 = .ok (.iaload, 1) := by decide +kernel
theorem d_M_type_123 : decode b_M_type 123 = .ok (.iconst 1, 1) := by decide +kernel
theorem d_M_type_124 : decode b_M_type 124 = .ok (.iand, 1) := by decide +kernel
theorem d_M_type_125 : decode b_M_type 125 = .ok (.iload_n 3, 1) := by decide +kernel
theorem d_M_type_126 : decode b_M_type 126 = .ok (.iconst 1, 1) := by decide +kernel
theorem d_M_type_127 : decode b_M_type 127 = .ok (.iand, 1) := by decide +kernel
theorem d_M_type_128 : decode b_M_type 128 = .ok (.if_icmp .eq 14, 3) := by decide +kernel
theorem d_M_type_131 : decode b_M_type 131 = .ok (.aload_n 0, 1) := by decide +kernel
theorem d_M_type_132 : decode b_M_type 132 = .ok (.iload_n 1, 1) := by decide +kernel
theorem d_M_type_133 : decode b_M_type 133 = .ok (.iload_n 2, 1) := by decide +kernel
theorem d_M_type_134 : decode b_M_type 134 = .ok (.invokevirtual 55, 3) := by decide +kernel
theorem d_M_type_137 : decode b_M_type 137 = .ok (.ifCond .eq 5, 3) := by decide +kernel
theorem d_M_type_140 : decode b_M_type 140 = .ok (.iconst (-1), 1) := by decide +kernel
theorem d_M_type_141 : decode b_M_type 141 = .ok (.ireturn, 1) := by decide +kernel
theorem d_M_type_142 : decode b_M_type 142 = .ok (.aload_n 0, 1) := by decide +kernel
theorem d_M_type_143 : decode b_M_type 143 = .ok (.getfield 7, 3) := by decide +kernel
theorem d_M_type_146 : decode b_M_type 146 = .ok (.iload 6, 2) := by decide +kernel
theorem d_M_type_148 : decode b_M_type 148 = .ok (.iconst 1, 1) := by decide +kernel
theorem d_M_type_149 : decode b_M_type 149 = .ok (.bastore, 1) := by decide +kernel
theorem d_M_type_150 : decode b_M_type 150 = .ok (.aload_n 0, 1) := by decide +kernel
theorem d_M_type_151 : decode b_M_type 151 = .ok (.getfield 13, 3) := by decide +kernel
theorem d_M_type_154 : decode b_M_type 154 = .ok (.iload 6, 2) := by decide +kernel
theorem d_M_type_156 : decode b_M_type 156 = .ok (.iload_n 3, 1) := by decide +kernel
theorem d_M_type_157 : decode b_M_type 157 = .ok (.iastore, 1) := by decide +kernel
theorem d_M_type_158 : decode b_M_type 158 = .ok (.aload_n 0, 1) := by decide +kernel
theorem d_M_type_159 : decode b_M_type 159 = .ok (.getfield 17, 3) := by decide +kernel
theorem d_M_type_162 : decode b_M_type 162 = .ok (.iload 6, 2) := by decide +kernel
theorem d_M_type_164 : decode b_M_type 164 = .ok (.iload 4, 2) := by decide +kernel
theorem d_M_type_166 : decode b_M_type 166 = .ok (.iastore, 1) := by decide +kernel
theorem d_M_type_167 : decode b_M_type 167 = .ok (.aload_n 0, 1) := by decide +kernel
theorem d_M_type_168 : decode b_M_type 168 = .ok (.getfield 20, 3) := by decide +kernel
theorem d_M_type_171 : decode b_M_type 171 = .ok (.iload 6, 2) := by decide +kernel
theorem d_M_type_173 : decode b_M_type 173 = .ok (.iload 5, 2) := by decide +kernel
theorem d_M_type_175 : decode b_M_type 175 = .ok (.iastore, 1) := by decide +kernel
theorem d_M_type_176 : decode b_M_type 176 = .ok (.iconst 0, 1) := by decide +kernel
theorem d_M_type_177 : decode b_M_type 177 = .ok (.ireturn, 1) := by decide +kernel
theorem d_M_drop_0 : decode b_M_drop 0 = .ok (.iload_n 1, 1) := by decide +kernel
theorem d_M_drop_1 : decode b_M_drop 1 = .ok (.iconst 0, 1) := by decide +kernel
theorem d_M_drop_2 : decode b_M_drop 2 = .ok (.iconst 1, 1) := by decide +kernel
theorem d_M_drop_3 : decode b_M_drop 3 = .ok (.invokestatic 47, 3) := by decide +kernel
theorem d_M_drop_6 : decode b_M_drop 6 = .ok (.ifCond .eq 35, 3) := by decide +kernel
theorem d_M_drop_9 : decode b_M_drop 9 = .ok (.iload_n 2, 1) := by decide +kernel
theorem d_M_drop_10 : decode b_M_drop 10 = .ok (.iconst 0, 1) := by decide +kernel
theorem d_M_drop_11 : decode b_M_drop 11 = .ok (.iconst 5, 1) := by decide +kernel
theorem d_M_drop_12 : decode b_M_drop 12 = .ok (.invokestatic 47, 3) := by decide +kernel
theorem d_M_drop_15 : decode b_M_drop 15 = .ok (.ifCond .eq 26, 3) := by decide +kernel
theorem d_M_drop_18 : decode b_M_drop 18 = .ok (.aload_n 0, 1) := by decide +kernel
theorem d_M_drop_19 : decode b_M_drop 19 = .ok (.getfield 7, 3) := by decide +kernel
theorem d_M_drop_22 : decode b_M_drop 22 = .ok (.bipush 6, 2) := by decide +kernel
theorem d_M_drop_24 : decode b_M_drop 24 = .ok (.iload_n 1, 1) := by decide +kernel
theorem d_M_drop_25 : decode b_M_drop 25 = .ok (.imul, 1) := by decide +kernel
theorem d_M_drop_26 : decode b_M_drop 26 = .ok (.iload_n 2, 1) := by decide +kernel
theorem d_M_drop_27 : decode b_M_drop 27 = .ok (.iadd, 1) := by decide +kernel
theorem d_M_drop_28 : decode b_M_drop 28 = .ok (.baload, 1) := by decide +kernel
theorem d_M_drop_29 : decode b_M_drop 29 = .ok (.ifCond .eq 12, 3) := by decide +kernel
theorem d_M_drop_32 : decode b_M_drop 32 = .ok (.aload_n 0, 1) := by decide +kernel
theorem d_M_drop_33 : decode b_M_drop 33 = .ok (.iload_n 1, 1) := by decide +kernel
theorem d_M_drop_34 : decode b_M_drop 34 = .ok (.iload_n 2, 1) := by decide +kernel
theorem d_M_drop_35 : decode b_M_drop 35 = .ok (.invokevirtual 55, 3) := by decide +kernel
theorem d_M_drop_38 : decode b_M_drop 38 = .ok (.ifCond .eq 5, 3) := by decide +kernel
theorem d_M_drop_41 : decode b_M_drop 41 = .ok (.iconst (-1), 1) := by decide +kernel
theorem d_M_drop_42 : decode b_M_drop 42 = .ok (.ireturn, 1) := by decide +kernel
theorem d_M_drop_43 : decode b_M_drop 43 = .ok (.bipush 6, 2) := by decide +kernel
theorem d_M_drop_45 : decode b_M_drop 45 = .ok (.iload_n 1, 1) := by decide +kernel
theorem d_M_drop_46 : decode b_M_drop 46 = .ok (.imul, 1) := by decide +kernel
theorem d_M_drop_47 : decode b_M_drop 47 = .ok (.iload_n 2, 1) := by decide +kernel
theorem d_M_drop_48 : decode b_M_drop 48 = .ok (.iadd, 1) := by decide +kernel
theorem d_M_drop_49 : decode b_M_drop 49 = .ok (.istore_n 3, 1) := by decide +kernel
theorem d_M_drop_50 : decode b_M_drop 50 = .ok (.aload_n 0, 1) := by decide +kernel
theorem d_M_drop_51 : decode b_M_drop 51 = .ok (.getfield 7, 3) := by decide +kernel
theorem d_M_drop_54 : decode b_M_drop 54 = .ok (.iload_n 3, 1) := by decide +kernel
theorem d_M_drop_55 : decode b_M_drop 55 = .ok (.iconst 0, 1) := by decide +kernel
theorem d_M_drop_56 : decode b_M_drop 56 = .ok (.bastore, 1) := by decide +kernel
theorem d_M_drop_57 : decode b_M_drop 57 = .ok (.iconst 4, 1) := by decide +kernel
theorem d_M_drop_58 : decode b_M_drop 58 = .ok (.iload_n 3, 1) := by decide +kernel
theorem d_M_drop_59 : decode b_M_drop 59 = .ok (.imul, 1) := by decide +kernel
theorem d_M_drop_60 : decode b_M_drop 60 = .ok (.istore 4, 2) := by decide +kernel
theorem d_M_drop_62 : decode b_M_drop 62 = .ok (.iload 4, 2) := by decide +kernel
theorem d_M_drop_64 : decode b_M_drop 64 = .ok (.iconst 4, 1) := by decide +kernel
theorem d_M_drop_65 : decode b_M_drop 65 = .ok (.iload_n 3, 1) := by decide +kernel
theorem d_M_drop_66 : decode b_M_drop 66 = .ok (.imul, 1) := by decide +kernel
theorem d_M_drop_67 : decode b_M_drop 67 = .ok (.iconst 4, 1) := by decide +kernel
theorem d_M_drop_68 : decode b_M_drop 68 = .ok (.iadd, 1) := by decide +kernel
theorem d_M_drop_69 : decode b_M_drop 69 = .ok (.if_icmp .ge 17, 3) := by decide +kernel
theorem d_M_drop_72 : decode b_M_drop 72 = .ok (.aload_n 0, 1) := by decide +kernel
theorem d_M_drop_73 : decode b_M_drop 73 = .ok (.getfield 23, 3) := by decide +kernel
theorem d_M_drop_76 : decode b_M_drop 76 = .ok (.iload 4, 2) := by decide +kernel
theorem d_M_drop_78 : decode b_M_drop 78 = .ok (.iconst (-1), 1) := by decide +kernel
theorem d_M_drop_79 : decode b_M_drop 79 = .ok (.iastore, 1) := by decide +kernel
theorem d_M_drop_80 : decode b_M_drop 80 = .ok (.iinc 4 1, 3) := by decide +kernel
theorem d_M_drop_83 : decode b_M_drop 83 = .ok (.goto (-21), 3) := by decide +kernel
theorem d_M_drop_86 : decode b_M_drop 86 = .ok (.bipush 12, 2) := by decide +kernel
theorem d_M_drop_88 : decode b_M_drop 88 = .ok (.iload_n 3, 1) := by decide +kernel
theorem d_M_drop_89 : decode b_M_drop 89 = .ok (.imul, 1) := by decide +kernel
theorem d_M_drop_90 : decode b_M_drop 90 = .ok (.istore 4, 2) := by decide +kernel
theorem d_M_drop_92 : decode b_M_drop 92 = .ok (.iload 4, 2) := by decide +kernel
theorem d_M_drop_94 : decode b_M_drop 94 = .ok (.bipush 12, 2) := by decide +kernel
theorem d_M_drop_96 : decode b_M_drop 96 = .ok (.iload_n 3, 1) := by decide +kernel
theorem d_M_drop_97 : decode b_M_drop 97 = .ok (.imul, 1) := by decide +kernel
theorem d_M_drop_98 : decode b_M_drop 98 = .ok (.bipush 12, 2) := by decide +kernel
theorem d_M_drop_100 : decode b_M_drop 100 = .ok (.iadd, 1) := by decide +kernel
theorem d_M_drop_101 : decode b_M_drop 101 = .ok (.if_icmp .ge 17, 3) := by decide +kernel
theorem d_M_drop_104 : decode b_M_drop 104 = .ok (.aload_n 0, 1) := by decide +kernel
theorem d_M_drop_105 : decode b_M_drop 105 = .ok (.getfield 32, 3) := by decide +kernel
theorem d_M_drop_108 : decode b_M_drop 108 = .ok (.iload 4, 2) := by decide +kernel
theorem d_M_drop_110 : decode b_M_drop 110 = .ok (.iconst (-1), 1) := by decide +kernel
theorem d_M_drop_111 : decode b_M_drop 111 = .ok (.iastore, 1) := by decide +kernel
theorem d_M_drop_112 : decode b_M_drop 112 = .ok (.iinc 4 1, 3) := by decide +kernel
theorem d_M_drop_115 : decode b_M_drop 115 = .ok (.goto (-23), 3) := by decide +kernel
theorem d_M_drop_118 : decode b_M_drop 118 = .ok (.iconst 0, 1) := by decide +kernel
theorem d_M_drop_119 : decode b_M_drop 119 = .ok (.ireturn, 1) := by decide +kernel
theorem d_M_field_0 : decode b_M_field 0 = .ok (.iload_n 1, 1) := by decide +kernel
theorem d_M_field_1 : decode b_M_field 1 = .ok (.iconst 0, 1) := by decide +kernel
theorem d_M_field_2 : decode b_M_field 2 = .ok (.bipush 23, 2) := by decide +kernel
theorem d_M_field_4 : decode b_M_field 4 = .ok (.invokestatic 47, 3) := by decide +kernel
theorem d_M_field_7 : decode b_M_field 7 = .ok (.ifCond .eq 39, 3) := by decide +kernel
theorem d_M_field_10 : decode b_M_field 10 = .ok (.iload_n 2, 1) := by decide +kernel
theorem d_M_field_11 : decode b_M_field 11 = .ok (.iconst 0, 1) := by decide +kernel
theorem d_M_field_12 : decode b_M_field 12 = .ok (.iconst 3, 1) := by decide +kernel
theorem d_M_field_13 : decode b_M_field 13 = .ok (.invokestatic 47, 3) := by decide +kernel
theorem d_M_field_16 : decode b_M_field 16 = .ok (.ifCond .eq 30, 3) := by decide +kernel
theorem d_M_field_19 : decode b_M_field 19 = .ok (.iload_n 3, 1) := by decide +kernel
theorem d_M_field_20 : decode b_M_field 20 = .ok (.iconst 0, 1) := by decide +kernel
theorem d_M_field_21 : decode b_M_field 21 = .ok (.bipush 31, 2) := by decide +kernel
theorem d_M_field_23 : decode b_M_field 23 = .ok (.invokestatic 47, 3) := by decide +kernel
theorem d_M_field_26 : decode b_M_field 26 = .ok (.ifCond .eq 20, 3) := by decide +kernel
theorem d_M_field_29 : decode b_M_field 29 = .ok (.iload_n 3, 1) := by decide +kernel
theorem d_M_field_30 : decode b_M_field 30 = .ok (.iconst 2, 1) := by decide +kernel
theorem d_M_field_31 : decode b_M_field 31 = .ok (.iand, 1) := by decide +kernel
theorem d_M_field_32 : decode b_M_field 32 = .ok (.ifCond .ne 14, 3) := by decide +kernel
theorem d_M_field_35 : decode b_M_field 35 = .ok (.aload_n 0, 1) := by decide +kernel
theorem d_M_field_36 : decode b_M_field 36 = .ok (.getfield 7, 3) := by decide +kernel
theorem d_M_field_39 : decode b_M_field 39 = .ok (.iload_n 1, 1) := by decide +kernel
theorem d_M_field_40 : decode b_M_field 40 = .ok (.iconst 2, 1) := by decide +kernel
theorem d_M_field_41 : decode b_M_field 41 = .ok (.idiv, 1) := by decide +kernel
theorem d_M_field_42 : decode b_M_field 42 = .ok (.baload, 1) := by decide +kernel
theorem d_M_field_43 : decode b_M_field 43 = .ok (.ifCond .ne 5, 3) := by decide +kernel
theorem d_M_field_46 : decode b_M_field 46 = .ok (.iconst (-1), 1) := by decide +kernel
theorem d_M_field_47 : decode b_M_field 47 = .ok (.ireturn, 1) := by decide +kernel
theorem d_M_field_48 : decode b_M_field 48 = .ok (.iload_n 3, 1) := by decide +kernel
theorem d_M_field_49 : decode b_M_field 49 = .ok (.bipush 16, 2) := by decide +kernel
theorem d_M_field_51 : decode b_M_field 51 = .ok (.iand, 1) := by decide +kernel
theorem d_M_field_52 : decode b_M_field 52 = .ok (.ifCond .eq 12, 3) := by decide +kernel
theorem d_M_field_55 : decode b_M_field 55 = .ok (.iload_n 3, 1) := by decide +kernel
theorem d_M_field_56 : decode b_M_field 56 = .ok (.iconst 5, 1) := by decide +kernel
theorem d_M_field_57 : decode b_M_field 57 = .ok (.iand, 1) := by decide +kernel
theorem d_M_field_58 : decode b_M_field 58 = .ok (.iconst 5, 1) := by decide +kernel
theorem d_M_field_59 : decode b_M_field 59 = .ok (.if_icmp .eq 5, 3) := by decide +kernel
theorem d_M_field_62 : decode b_M_field 62 = .ok (.iconst (-1), 1) := by decide +kernel
theorem d_M_field_63 : decode b_M_field 63 = .ok (.ireturn, 1) := by decide +kernel
theorem d_M_field_64 : decode b_M_field 64 = .ok (.iconst 4, 1) := by decide +kernel
theorem d_M_field_65 : decode b_M_field 65 = .ok (.iload_n 1, 1) := by decide +kernel
theorem d_M_field_66 : decode b_M_field 66 = .ok (.iconst 2, 1) := by decide +kernel
theorem d_M_field_67 : decode b_M_field 67 = .ok (.idiv, 1) := by decide +kernel
theorem d_M_field_68 : decode b_M_field 68 = .ok (.imul, 1) := by decide +kernel
theorem d_M_field_69 : decode b_M_field 69 = .ok (.iload_n 2, 1) := by decide +kernel
theorem d_M_field_70 : decode b_M_field 70 = .ok (.iadd, 1) := by decide +kernel
theorem d_M_field_71 : decode b_M_field 71 = .ok (.istore 5, 2) := by decide +kernel
theorem d_M_field_73 : decode b_M_field 73 = .ok (.aload_n 0, 1) := by decide +kernel
theorem d_M_field_74 : decode b_M_field 74 = .ok (.getfield 23, 3) := by decide +kernel
theorem d_M_field_77 : decode b_M_field 77 = .ok (.iload 5, 2) := by decide +kernel
theorem d_M_field_79 : decode b_M_field 79 = .ok (.iload_n 1, 1) := by decide +kernel
theorem d_M_field_80 : decode b_M_field 80 = .ok (.iconst 2, 1) := by decide +kernel
theorem d_M_field_81 : decode b_M_field 81 = .ok (.irem, 1) := by decide +kernel
theorem d_M_field_82 : decode b_M_field 82 = .ok (.iastore, 1) := by decide +kernel
theorem d_M_field_83 : decode b_M_field 83 = .ok (.aload_n 0, 1) := by decide +kernel
theorem d_M_field_84 : decode b_M_field 84 = .ok (.getfield 26, 3) := by decide +kernel
theorem d_M_field_87 : decode b_M_field 87 = .ok (.iload 5, 2) := by decide +kernel
theorem d_M_field_89 : decode b_M_field 89 = .ok (.iload_n 3, 1) := by decide +kernel
theorem d_M_field_90 : decode b_M_field 90 = .ok (.iastore, 1) := by decide +kernel
theorem d_M_field_91 : decode b_M_field 91 = .ok (.aload_n 0, 1) := by decide +kernel
theorem d_M_field_92 : decode b_M_field 92 = .ok (.getfield 29, 3) := by decide +kernel
theorem d_M_field_95 : decode b_M_field 95 = .ok (.iload 5, 2) := by decide +kernel
theorem d_M_field_97 : decode b_M_field 97 = .ok (.iload 4, 2) := by decide +kernel
theorem d_M_field_99 : decode b_M_field 99 = .ok (.iastore, 1) := by decide +kernel
theorem d_M_field_100 : decode b_M_field 100 = .ok (.iconst 0, 1) := by decide +kernel
theorem d_M_field_101 : decode b_M_field 101 = .ok (.ireturn, 1) := by decide +kernel
theorem d_M_method_0 : decode b_M_method 0 = .ok (.iload_n 1, 1) := by decide +kernel
theorem d_M_method_1 : decode b_M_method 1 = .ok (.iconst 0, 1) := by decide +kernel
theorem d_M_method_2 : decode b_M_method 2 = .ok (.bipush 11, 2) := by decide +kernel
theorem d_M_method_4 : decode b_M_method 4 = .ok (.invokestatic 47, 3) := by decide +kernel
theorem d_M_method_7 : decode b_M_method 7 = .ok (.ifCond .eq 42, 3) := by decide +kernel
theorem d_M_method_10 : decode b_M_method 10 = .ok (.iload_n 2, 1) := by decide +kernel
theorem d_M_method_11 : decode b_M_method 11 = .ok (.iconst 0, 1) := by decide +kernel
theorem d_M_method_12 : decode b_M_method 12 = .ok (.iconst 2, 1) := by decide +kernel
theorem d_M_method_13 : decode b_M_method 13 = .ok (.invokestatic 47, 3) := by decide +kernel
theorem d_M_method_16 : decode b_M_method 16 = .ok (.ifCond .eq 33, 3) := by decide +kernel
theorem d_M_method_19 : decode b_M_method 19 = .ok (.iload_n 3, 1) := by decide +kernel
theorem d_M_method_20 : decode b_M_method 20 = .ok (.iconst 0, 1) := by decide +kernel
theorem d_M_method_21 : decode b_M_method 21 = .ok (.bipush 15, 2) := by decide +kernel
theorem d_M_method_23 : decode b_M_method 23 = .ok (.invokestatic 47, 3) := by decide +kernel
theorem d_M_method_26 : decode b_M_method 26 = .ok (.ifCond .eq 23, 3) := by decide +kernel
theorem d_M_method_29 : decode b_M_method 29 = .ok (.iload 4, 2) := by decide +kernel
theorem d_M_method_31 : decode b_M_method 31 = .ok (.iconst 0, 1) := by decide +kernel
theorem d_M_method_32 : decode b_M_method 32 = .ok (.bipush 15, 2) := by decide +kernel
theorem d_M_method_34 : decode b_M_method 34 = .ok (.invokestatic 47, 3) := by decide +kernel
theorem d_M_method_37 : decode b_M_method 37 = .ok (.ifCond .eq 12, 3) := by decide +kernel
theorem d_M_method_40 : decode b_M_method 40 = .ok (.aload_n 0, 1) := by decide +kernel
theorem d_M_method_41 : decode b_M_method 41 = .ok (.getfield 7, 3) := by decide +kernel
theorem d_M_method_44 : decode b_M_method 44 = .ok (.iload_n 1, 1) := by decide +kernel
theorem d_M_method_45 : decode b_M_method 45 = .ok (.baload, 1) := by decide +kernel
theorem d_M_method_46 : decode b_M_method 46 = .ok (.ifCond .ne 5, 3) := by decide +kernel
theorem d_M_method_49 : decode b_M_method 49 = .ok (.iconst (-1), 1) := by decide +kernel
theorem d_M_method_50 : decode b_M_method 50 = .ok (.ireturn, 1) := by decide +kernel
theorem d_M_method_51 : decode b_M_method 51 = .ok (.iload 4, 2) := by decide +kernel
theorem d_M_method_53 : decode b_M_method 53 = .ok (.iconst 2, 1) := by decide +kernel
theorem d_M_method_54 : decode b_M_method 54 = .ok (.iand, 1) := by decide +kernel
theorem d_M_method_55 : decode b_M_method 55 = .ok (.ifCond .eq 13, 3) := by decide +kernel
theorem d_M_method_58 : decode b_M_method 58 = .ok (.iload 4, 2) := by decide +kernel
theorem d_M_method_60 : decode b_M_method 60 = .ok (.bipush 13, 2) := by decide +kernel
theorem d_M_method_62 : decode b_M_method 62 = .ok (.iand, 1) := by decide +kernel
theorem d_M_method_63 : decode b_M_method 63 = .ok (.ifCond .eq 5, 3) := by decide +kernel
theorem d_M_method_66 : decode b_M_method 66 = .ok (.iconst (-1), 1) := by decide +kernel
theorem d_M_method_67 : decode b_M_method 67 = .ok (.ireturn, 1) := by decide +kernel
theorem d_M_method_68 : decode b_M_method 68 = .ok (.bipush 12, 2) := by decide +kernel
theorem d_M_method_70 : decode b_M_method 70 = .ok (.iload_n 1, 1) := by decide +kernel
theorem d_M_method_71 : decode b_M_method 71 = .ok (.imul, 1) := by decide +kernel
theorem d_M_method_72 : decode b_M_method 72 = .ok (.iconst 4, 1) := by decide +kernel
theorem d_M_method_73 : decode b_M_method 73 = .ok (.iload_n 2, 1) := by decide +kernel
theorem d_M_method_74 : decode b_M_method 74 = .ok (.imul, 1) := by decide +kernel
theorem d_M_method_75 : decode b_M_method 75 = .ok (.iadd, 1) := by decide +kernel
theorem d_M_method_76 : decode b_M_method 76 = .ok (.iload_n 3, 1) := by decide +kernel
theorem d_M_method_77 : decode b_M_method 77 = .ok (.iconst 4, 1) := by decide +kernel
theorem d_M_method_78 : decode b_M_method 78 = .ok (.idiv, 1) := by decide +kernel
theorem d_M_method_79 : decode b_M_method 79 = .ok (.iadd, 1) := by decide +kernel
theorem d_M_method_80 : decode b_M_method 80 = .ok (.istore 5, 2) := by decide +kernel
theorem d_M_method_82 : decode b_M_method 82 = .ok (.aload_n 0, 1) := by decide +kernel
theorem d_M_method_83 : decode b_M_method 83 = .ok (.getfield 32, 3) := by decide +kernel
theorem d_M_method_86 : decode b_M_method 86 = .ok (.iload 5, 2) := by decide +kernel
theorem d_M_method_88 : decode b_M_method 88 = .ok (.iload_n 3, 1) := by decide +kernel
theorem d_M_method_89 : decode b_M_method 89 = .ok (.iconst 4, 1) := by decide +kernel
theorem d_M_method_90 : decode b_M_method 90 = .ok (.irem, 1) := by decide +kernel
theorem d_M_method_91 : decode b_M_method 91 = .ok (.iastore, 1) := by decide +kernel
theorem d_M_method_92 : decode b_M_method 92 = .ok (.aload_n 0, 1) := by decide +kernel
theorem d_M_method_93 : decode b_M_method 93 = .ok (.getfield 35, 3) := by decide +kernel
theorem d_M_method_96 : decode b_M_method 96 = .ok (.iload 5, 2) := by decide +kernel
theorem d_M_method_98 : decode b_M_method 98 = .ok (.iload 4, 2) := by decide +kernel
theorem d_M_method_100 : decode b_M_method 100 = .ok (.iastore, 1) := by decide +kernel
theorem d_M_method_101 : decode b_M_method 101 = .ok (.iconst 0, 1) := by decide +kernel
theorem d_M_method_102 : decode b_M_method 102 = .ok (.ireturn, 1) := by decide +kernel
theorem d_M_cut_0 : decode b_M_cut 0 = .ok (.iload_n 1, 1) := by decide +kernel
theorem d_M_cut_1 : decode b_M_cut 1 = .ok (.iconst 0, 1) := by decide +kernel
theorem d_M_cut_2 : decode b_M_cut 2 = .ok (.iconst 1, 1) := by decide +kernel
theorem d_M_cut_3 : decode b_M_cut 3 = .ok (.invokestatic 47, 3) := by decide +kernel
theorem d_M_cut_6 : decode b_M_cut 6 = .ok (.ifCond .eq 41, 3) := by decide +kernel
theorem d_M_cut_9 : decode b_M_cut 9 = .ok (.iload_n 2, 1) := by decide +kernel
theorem d_M_cut_10 : decode b_M_cut 10 = .ok (.iconst 0, 1) := by decide +kernel
theorem d_M_cut_11 : decode b_M_cut 11 = .ok (.iconst 5, 1) := by decide +kernel
theorem d_M_cut_12 : decode b_M_cut 12 = .ok (.invokestatic 47, 3) := by decide +kernel
theorem d_M_cut_15 : decode b_M_cut 15 = .ok (.ifCond .eq 32, 3) := by decide +kernel
theorem d_M_cut_18 : decode b_M_cut 18 = .ok (.iload 4, 2) := by decide +kernel
theorem d_M_cut_20 : decode b_M_cut 20 = .ok (.iconst 0, 1) := by decide +kernel
theorem d_M_cut_21 : decode b_M_cut 21 = .ok (.iconst 4, 1) := by decide +kernel
theorem d_M_cut_22 : decode b_M_cut 22 = .ok (.invokestatic 47, 3) := by decide +kernel
theorem d_M_cut_25 : decode b_M_cut 25 = .ok (.ifCond .eq 22, 3) := by decide +kernel
theorem d_M_cut_28 : decode b_M_cut 28 = .ok (.iload_n 3, 1) := by decide +kernel
theorem d_M_cut_29 : decode b_M_cut 29 = .ok (.iconst 0, 1) := by decide +kernel
theorem d_M_cut_30 : decode b_M_cut 30 = .ok (.iload 4, 2) := by decide +kernel
theorem d_M_cut_32 : decode b_M_cut 32 = .ok (.iconst 4, 1) := by decide +kernel
theorem d_M_cut_33 : decode b_M_cut 33 = .ok (.if_icmp .ne 7, 3) := by decide +kernel
theorem d_M_cut_36 : decode b_M_cut 36 = .ok (.iconst 3, 1) := by decide +kernel
theorem d_M_cut_37 : decode b_M_cut 37 = .ok (.goto 4, 3) := by decide +kernel
theorem d_M_cut_40 : decode b_M_cut 40 = .ok (.iconst 2, 1) := by decide +kernel
theorem d_M_cut_41 : decode b_M_cut 41 = .ok (.invokestatic 47, 3) := by decide +kernel
theorem d_M_cut_44 : decode b_M_cut 44 = .ok (.ifCond .ne 5, 3) := by decide +kernel
theorem d_M_cut_47 : decode b_M_cut 47 = .ok (.iconst (-1), 1) := by decide +kernel
theorem d_M_cut_48 : decode b_M_cut 48 = .ok (.ireturn, 1) := by decide +kernel
theorem d_M_cut_49 : decode b_M_cut 49 = .ok (.bipush 6, 2) := by decide +kernel
theorem d_M_cut_51 : decode b_M_cut 51 = .ok (.iload_n 1, 1) := by decide +kernel
theorem d_M_cut_52 : decode b_M_cut 52 = .ok (.imul, 1) := by decide +kernel
theorem d_M_cut_53 : decode b_M_cut 53 = .ok (.iload_n 2, 1) := by decide +kernel
theorem d_M_cut_54 : decode b_M_cut 54 = .ok (.iadd, 1) := by decide +kernel
theorem d_M_cut_55 : decode b_M_cut 55 = .ok (.istore 5, 2) := by decide +kernel
theorem d_M_cut_57 : decode b_M_cut 57 = .ok (.iload 4, 2) := by decide +kernel
theorem d_M_cut_59 : decode b_M_cut 59 = .ok (.iconst 4, 1) := by decide +kernel
theorem d_M_cut_60 : decode b_M_cut 60 = .ok (.if_icmp .ne 25, 3) := by decide +kernel
theorem d_M_cut_63 : decode b_M_cut 63 = .ok (.aload_n 0, 1) := by decide +kernel
theorem d_M_cut_64 : decode b_M_cut 64 = .ok (.getfield 23, 3) := by decide +kernel
theorem d_M_cut_67 : decode b_M_cut 67 = .ok (.iconst 4, 1) := by decide +kernel
theorem d_M_cut_68 : decode b_M_cut 68 = .ok (.iload 5, 2) := by decide +kernel
theorem d_M_cut_70 : decode b_M_cut 70 = .ok (.imul, 1) := by decide +kernel
theorem d_M_cut_71 : decode b_M_cut 71 = .ok (.iload_n 3, 1) := by decide +kernel
theorem d_M_cut_72 : decode b_M_cut 72 = .ok (.iadd, 1) := by decide +kernel
theorem d_M_cut_73 : decode b_M_cut 73 = .ok (.iaload, 1) := by decide +kernel
theorem d_M_cut_74 : decode b_M_cut 74 = .ok (.ifCond .lt 7, 3) := by decide +kernel
theorem d_M_cut_77 : decode b_M_cut 77 = .ok (.iconst 1, 1) := by decide +kernel
theorem d_M_cut_78 : decode b_M_cut 78 = .ok (.goto 34, 3) := by decide +kernel
theorem d_M_cut_81 : decode b_M_cut 81 = .ok (.iconst 0, 1) := by decide +kernel
theorem d_M_cut_82 : decode b_M_cut 82 = .ok (.goto 30, 3) := by decide +kernel
theorem d_M_cut_85 : decode b_M_cut 85 = .ok (.aload_n 0, 1) := by decide +kernel
theorem d_M_cut_86 : decode b_M_cut 86 = .ok (.getfield 32, 3) := by decide +kernel
theorem d_M_cut_89 : decode b_M_cut 89 = .ok (.bipush 12, 2) := by decide +kernel
theorem d_M_cut_91 : decode b_M_cut 91 = .ok (.iload 5, 2) := by decide +kernel
theorem d_M_cut_93 : decode b_M_cut 93 = .ok (.imul, 1) := by decide +kernel
theorem d_M_cut_94 : decode b_M_cut 94 = .ok (.iconst 4, 1) := by decide +kernel
theorem d_M_cut_95 : decode b_M_cut 95 = .ok (.iload_n 3, 1) := by decide +kernel
theorem d_M_cut_96 : decode b_M_cut 96 = .ok (.imul, 1) := by decide +kernel
theorem d_M_cut_97 : decode b_M_cut 97 = .ok (.iadd, 1) := by decide +kernel
theorem d_M_cut_98 : decode b_M_cut 98 = .ok (.iload 4, 2) := by decide +kernel
theorem d_M_cut_100 : decode b_M_cut 100 = .ok (.iconst 4, 1) := by decide +kernel
theorem d_M_cut_101 : decode b_M_cut 101 = .ok (.irem, 1) := by decide +kernel
theorem d_M_cut_102 : decode b_M_cut 102 = .ok (.iadd, 1) := by decide +kernel
theorem d_M_cut_103 : decode b_M_cut 103 = .ok (.iaload, 1) := by decide +kernel
theorem d_M_cut_104 : decode b_M_cut 104 = .ok (.ifCond .lt 7, 3) := by decide +kernel
theorem d_M_cut_107 : decode b_M_cut 107 = .ok (.iconst 1, 1) := by decide +kernel
theorem d_M_cut_108 : decode b_M_cut 108 = .ok (.goto 4, 3) := by decide +kernel
theorem d_M_cut_111 : decode b_M_cut 111 = .ok (.iconst 0, 1) := by decide +kernel
theorem d_M_cut_112 : decode b_M_cut 112 = .ok (.istore 6, 2) := by decide +kernel
theorem d_M_cut_114 : decode b_M_cut 114 = .ok (.iload 6, 2) := by decide +kernel
theorem d_M_cut_116 : decode b_M_cut 116 = .ok (.ifCond .ne 5, 3) := by decide +kernel
theorem d_M_cut_119 : decode b_M_cut 119 = .ok (.iconst (-1), 1) := by decide +kernel
theorem d_M_cut_120 : decode b_M_cut 120 = .ok (.ireturn, 1) := by decide +kernel
theorem d_M_cut_121 : decode b_M_cut 121 = .ok (.iload 4, 2) := by decide +kernel
theorem d_M_cut_123 : decode b_M_cut 123 = .ok (.iconst 4, 1) := by decide +kernel
theorem d_M_cut_124 : decode b_M_cut 124 = .ok (.if_icmp .ne 18, 3) := by decide +kernel
theorem d_M_cut_127 : decode b_M_cut 127 = .ok (.aload_n 0, 1) := by decide +kernel
theorem d_M_cut_128 : decode b_M_cut 128 = .ok (.getfield 23, 3) := by decide +kernel
theorem d_M_cut_131 : decode b_M_cut 131 = .ok (.iconst 4, 1) := by decide +kernel
theorem d_M_cut_132 : decode b_M_cut 132 = .ok (.iload 5, 2) := by decide +kernel
theorem d_M_cut_134 : decode b_M_cut 134 = .ok (.imul, 1) := by decide +kernel
theorem d_M_cut_135 : decode b_M_cut 135 = .ok (.iload_n 3, 1) := by decide +kernel
theorem d_M_cut_136 : decode b_M_cut 136 = .ok (.iadd, 1) := by decide +kernel
theorem d_M_cut_137 : decode b_M_cut 137 = .ok (.iconst (-1), 1) := by decide +kernel
theorem d_M_cut_138 : decode b_M_cut 138 = .ok (.iastore, 1) := by decide +kernel
theorem d_M_cut_139 : decode b_M_cut 139 = .ok (.goto 21, 3) := by decide +kernel
theorem d_M_cut_142 : decode b_M_cut 142 = .ok (.aload_n 0, 1) := by decide +kernel
theorem d_M_cut_143 : decode b_M_cut 143 = .ok (.getfield 32, 3) := by decide +kernel
theorem d_M_cut_146 : decode b_M_cut 146 = .ok (.bipush 12, 2) := by decide +kernel
theorem d_M_cut_148 : decode b_M_cut 148 = .ok (.iload 5, 2) := by decide +kernel
theorem d_M_cut_150 : decode b_M_cut 150 = .ok (.imul, 1) := by decide +kernel
theorem d_M_cut_151 : decode b_M_cut 151 = .ok (.iconst 4, 1) := by decide +kernel
theorem d_M_cut_152 : decode b_M_cut 152 = .ok (.iload_n 3, 1) := by decide +kernel
theorem d_M_cut_153 : decode b_M_cut 153 = .ok (.imul, 1) := by decide +kernel
theorem d_M_cut_154 : decode b_M_cut 154 = .ok (.iadd, 1) := by decide +kernel
theorem d_M_cut_155 : decode b_M_cut 155 = .ok (.iload 4, 2) := by decide +kernel
theorem d_M_cut_157 : decode b_M_cut 157 = .ok (.iadd, 1) := by decide +kernel
theorem d_M_cut_158 : decode b_M_cut 158 = .ok (.iconst (-1), 1) := by decide +kernel
theorem d_M_cut_159 : decode b_M_cut 159 = .ok (.iastore, 1) := by decide +kernel
theorem d_M_cut_160 : decode b_M_cut 160 = .ok (.iconst 0, 1) := by decide +kernel
theorem d_M_cut_161 : decode b_M_cut 161 = .ok (.ireturn, 1) := by decide +kernel
theorem d_M_copy_0 : decode b_M_copy 0 = .ok (.iconst 0, 1) := by decide +kernel
theorem d_M_copy_1 : decode b_M_copy 1 = .ok (.istore_n 1, 1) := by decide +kernel
theorem d_M_copy_2 : decode b_M_copy 2 = .ok (.iload_n 1, 1) := by decide +kernel
theorem d_M_copy_3 : decode b_M_copy 3 = .ok (.bipush 6, 2) := by decide +kernel
theorem d_M_copy_5 : decode b_M_copy 5 = .ok (.if_icmp .ge 69, 3) := by decide +kernel
theorem d_M_copy_8 : decode b_M_copy 8 = .ok (.aload_n 0, 1) := by decide +kernel
theorem d_M_copy_9 : decode b_M_copy 9 = .ok (.getfield 7, 3) := by decide +kernel
theorem d_M_copy_12 : decode b_M_copy 12 = .ok (.bipush 6, 2) := by decide +kernel
theorem d_M_copy_14 : decode b_M_copy 14 = .ok (.iload_n 1, 1) := by decide +kernel
theorem d_M_copy_15 : decode b_M_copy 15 = .ok (.iadd, 1) := by decide +kernel
theorem d_M_copy_16 : decode b_M_copy 16 = .ok (.aload_n 0, 1) := by decide +kernel
theorem d_M_copy_17 : decode b_M_copy 17 = .ok (.getfield 7, 3) := by decide +kernel
theorem d_M_copy_20 : decode b_M_copy 20 = .ok (.iload_n 1, 1) := by decide +kernel
theorem d_M_copy_21 : decode b_M_copy 21 = .ok (.baload, 1) := by decide +kernel
theorem d_M_copy_22 : decode b_M_copy 22 = .ok (.bastore, 1) := by decide +kernel
theorem d_M_copy_23 : decode b_M_copy 23 = .ok (.aload_n 0, 1) := by decide +kernel
theorem d_M_copy_24 : decode b_M_copy 24 = .ok (.getfield 13, 3) := by decide +kernel
theorem d_M_copy_27 : decode b_M_copy 27 = .ok (.bipush 6, 2) := by decide +kernel
theorem d_M_copy_29 : decode b_M_copy 29 = .ok (.iload_n 1, 1) := by decide +kernel
theorem d_M_copy_30 : decode b_M_copy 30 = .ok (.iadd, 1) := by decide +kernel
theorem d_M_copy_31 : decode b_M_copy 31 = .ok (.aload_n 0, 1) := by decide +kernel
theorem d_M_copy_32 : decode b_M_copy 32 = .ok (.getfield 13, 3) := by decide +kernel
theorem d_M_copy_35 : decode b_M_copy 35 = .ok (.iload_n 1, 1) := by decide +kernel
theorem d_M_copy_36 : decode b_M_copy 36 = .ok (.iaload, 1) := by decide +kernel
theorem d_M_copy_37 : decode b_M_copy 37 = .ok (.iastore, 1) := by decide +kernel
theorem d_M_copy_38 : decode b_M_copy 38 = .ok (.aload_n 0, 1) := by decide +kernel
theorem d_M_copy_39 : decode b_M_copy 39 = .ok (.getfield 17, 3) := by decide +kernel
theorem d_M_copy_42 : decode b_M_copy 42 = .ok (.bipush 6, 2) := by decide +kernel
theorem d_M_copy_44 : decode b_M_copy 44 = .ok (.iload_n 1, 1) := by decide +kernel
theorem d_M_copy_45 : decode b_M_copy 45 = .ok (.iadd, 1) := by decide +kernel
theorem d_M_copy_46 : decode b_M_copy 46 = .ok (.aload_n 0, 1) := by decide +kernel
theorem d_M_copy_47 : decode b_M_copy 47 = .ok (.getfield 17, 3) := by decide +kernel
theorem d_M_copy_50 : decode b_M_copy 50 = .ok (.iload_n 1, 1) := by decide +kernel
theorem d_M_copy_51 : decode b_M_copy 51 = .ok (.iaload, 1) := by decide +kernel
theorem d_M_copy_52 : decode b_M_copy 52 = .ok (.iastore, 1) := by decide +kernel
theorem d_M_copy_53 : decode b_M_copy 53 = .ok (.aload_n 0, 1) := by decide +kernel
theorem d_M_copy_54 : decode b_M_copy 54 = .ok (.getfield 20, 3) := by decide +kernel
theorem d_M_copy_57 : decode b_M_copy 57 = .ok (.bipush 6, 2) := by decide +kernel
theorem d_M_copy_59 : decode b_M_copy 59 = .ok (.iload_n 1, 1) := by decide +kernel
theorem d_M_copy_60 : decode b_M_copy 60 = .ok (.iadd, 1) := by decide +kernel
theorem d_M_copy_61 : decode b_M_copy 61 = .ok (.aload_n 0, 1) := by decide +kernel
theorem d_M_copy_62 : decode b_M_copy 62 = .ok (.getfield 20, 3) := by decide +kernel
theorem d_M_copy_65 : decode b_M_copy 65 = .ok (.iload_n 1, 1) := by decide +kernel
theorem d_M_copy_66 : decode b_M_copy 66 = .ok (.iaload, 1) := by decide +kernel
theorem d_M_copy_67 : decode b_M_copy 67 = .ok (.iastore, 1) := by decide +kernel
theorem d_M_copy_68 : decode b_M_copy 68 = .ok (.iinc 1 1, 3) := by decide +kernel
theorem d_M_copy_71 : decode b_M_copy 71 = .ok (.goto (-69), 3) := by decide +kernel
theorem d_M_copy_74 : decode b_M_copy 74 = .ok (.iconst 0, 1) := by decide +kernel
theorem d_M_copy_75 : decode b_M_copy 75 = .ok (.istore_n 1, 1) := by decide +kernel
theorem d_M_copy_76 : decode b_M_copy 76 = .ok (.iload_n 1, 1) := by decide +kernel
theorem d_M_copy_77 : decode b_M_copy 77 = .ok (.bipush 24, 2) := by decide +kernel
theorem d_M_copy_79 : decode b_M_copy 79 = .ok (.if_icmp .ge 54, 3) := by decide +kernel
theorem d_M_copy_82 : decode b_M_copy 82 = .ok (.aload_n 0, 1) := by decide +kernel
theorem d_M_copy_83 : decode b_M_copy 83 = .ok (.getfield 23, 3) := by decide +kernel
theorem d_M_copy_86 : decode b_M_copy 86 = .ok (.bipush 24, 2) := by decide +kernel
theorem d_M_copy_88 : decode b_M_copy 88 = .ok (.iload_n 1, 1) := by decide +kernel
theorem d_M_copy_89 : decode b_M_copy 89 = .ok (.iadd, 1) := by decide +kernel
theorem d_M_copy_90 : decode b_M_copy 90 = .ok (.aload_n 0, 1) := by decide +kernel
theorem d_M_copy_91 : decode b_M_copy 91 = .ok (.getfield 23, 3) := by decide +kernel
theorem d_M_copy_94 : decode b_M_copy 94 = .ok (.iload_n 1, 1) := by decide +kernel
theorem d_M_copy_95 : decode b_M_copy 95 = .ok (.iaload, 1) := by decide +kernel
theorem d_M_copy_96 : decode b_M_copy 96 = .ok (.iastore, 1) := by decide +kernel
theorem d_M_copy_97 : decode b_M_copy 97 = .ok (.aload_n 0, 1) := by decide +kernel
theorem d_M_copy_98 : decode b_M_copy 98 = .ok (.getfield 26, 3) := by decide +kernel
theorem d_M_copy_101 : decode b_M_copy 101 = .ok (.bipush 24, 2) := by decide +kernel
theorem d_M_copy_103 : decode b_M_copy 103 = .ok (.iload_n 1, 1) := by decide +kernel
theorem d_M_copy_104 : decode b_M_copy 104 = .ok (.iadd, 1) := by decide +kernel
theorem d_M_copy_105 : decode b_M_copy 105 = .ok (.aload_n 0, 1) := by decide +kernel
theorem d_M_copy_106 : decode b_M_copy 106 = .ok (.getfield 26, 3) := by decide +kernel
theorem d_M_copy_109 : decode b_M_copy 109 = .ok (.iload_n 1, 1) := by decide +kernel
theorem d_M_copy_110 : decode b_M_copy 110 = .ok (.iaload, 1) := by decide +kernel
theorem d_M_copy_111 : decode b_M_copy 111 = .ok (.iastore, 1) := by decide +kernel
theorem d_M_copy_112 : decode b_M_copy 112 = .ok (.aload_n 0, 1) := by decide +kernel
theorem d_M_copy_113 : decode b_M_copy 113 = .ok (.getfield 29, 3) := by decide +kernel
theorem d_M_copy_116 : decode b_M_copy 116 = .ok (.bipush 24, 2) := by decide +kernel
theorem d_M_copy_118 : decode b_M_copy 118 = .ok (.iload_n 1, 1) := by decide +kernel
theorem d_M_copy_119 : decode b_M_copy 119 = .ok (.iadd, 1) := by decide +kernel
theorem d_M_copy_120 : decode b_M_copy 120 = .ok (.aload_n 0, 1) := by decide +kernel
theorem d_M_copy_121 : decode b_M_copy 121 = .ok (.getfield 29, 3) := by decide +kernel
theorem d_M_copy_124 : decode b_M_copy 124 = .ok (.iload_n 1, 1) := by decide +kernel
theorem d_M_copy_125 : decode b_M_copy 125 = .ok (.iaload, 1) := by decide +kernel
theorem d_M_copy_126 : decode b_M_copy 126 = .ok (.iastore, 1) := by decide +kernel
theorem d_M_copy_127 : decode b_M_copy 127 = .ok (.iinc 1 1, 3) := by decide +kernel
theorem d_M_copy_130 : decode b_M_copy 130 = .ok (.goto (-54), 3) := by decide +kernel
theorem d_M_copy_133 : decode b_M_copy 133 = .ok (.iconst 0, 1) := by decide +kernel
theorem d_M_copy_134 : decode b_M_copy 134 = .ok (.istore_n 1, 1) := by decide +kernel
theorem d_M_copy_135 : decode b_M_copy 135 = .ok (.iload_n 1, 1) := by decide +kernel
theorem d_M_copy_136 : decode b_M_copy 136 = .ok (.bipush 72, 2) := by decide +kernel
theorem d_M_copy_138 : decode b_M_copy 138 = .ok (.if_icmp .ge 39, 3) := by decide +kernel
theorem d_M_copy_141 : decode b_M_copy 141 = .ok (.aload_n 0, 1) := by decide +kernel
theorem d_M_copy_142 : decode b_M_copy 142 = .ok (.getfield 32, 3) := by decide +kernel
theorem d_M_copy_145 : decode b_M_copy 145 = .ok (.bipush 72, 2) := by decide +kernel
theorem d_M_copy_147 : decode b_M_copy 147 = .ok (.iload_n 1, 1) := by decide +kernel
theorem d_M_copy_148 : decode b_M_copy 148 = .ok (.iadd, 1) := by decide +kernel
theorem d_M_copy_149 : decode b_M_copy 149 = .ok (.aload_n 0, 1) := by decide +kernel
theorem d_M_copy_150 : decode b_M_copy 150 = .ok (.getfield 32, 3) := by decide +kernel
theorem d_M_copy_153 : decode b_M_copy 153 = .ok (.iload_n 1, 1) := by decide +kernel
theorem d_M_copy_154 : decode b_M_copy 154 = .ok (.iaload, 1) := by decide +kernel
theorem d_M_copy_155 : decode b_M_copy 155 = .ok (.iastore, 1) := by decide +kernel
theorem d_M_copy_156 : decode b_M_copy 156 = .ok (.aload_n 0, 1) := by decide +kernel
theorem d_M_copy_157 : decode b_M_copy 157 = .ok (.getfield 35, 3) := by decide +kernel
theorem d_M_copy_160 : decode b_M_copy 160 = .ok (.bipush 72, 2) := by decide +kernel
theorem d_M_copy_162 : decode b_M_copy 162 = .ok (.iload_n 1, 1) := by decide +kernel
theorem d_M_copy_163 : decode b_M_copy 163 = .ok (.iadd, 1) := by decide +kernel
theorem d_M_copy_164 : decode b_M_copy 164 = .ok (.aload_n 0, 1) := by decide +kernel
theorem d_M_copy_165 : decode b_M_copy 165 = .ok (.getfield 35, 3) := by decide +kernel
theorem d_M_copy_168 : decode b_M_copy 168 = .ok (.iload_n 1, 1) := by decide +kernel
theorem d_M_copy_169 : decode b_M_copy 169 = .ok (.iaload, 1) := by decide +kernel
theorem d_M_copy_170 : decode b_M_copy 170 = .ok (.iastore, 1) := by decide +kernel
theorem d_M_copy_171 : decode b_M_copy 171 = .ok (.iinc 1 1, 3) := by decide +kernel
theorem d_M_copy_174 : decode b_M_copy 174 = .ok (.goto (-39), 3) := by decide +kernel
theorem d_M_copy_177 : decode b_M_copy 177 = .ok (.iconst 0, 1) := by decide +kernel
theorem d_M_copy_178 : decode b_M_copy 178 = .ok (.ireturn, 1) := by decide +kernel
theorem d_M_use_0 : decode b_M_use 0 = .ok (.iload_n 1, 1) := by decide +kernel
theorem d_M_use_1 : decode b_M_use 1 = .ok (.iconst 2, 1) := by decide +kernel
theorem d_M_use_2 : decode b_M_use 2 = .ok (.if_icmp .eq 14, 3) := by decide +kernel
theorem d_M_use_5 : decode b_M_use 5 = .ok (.iload_n 1, 1) := by decide +kernel
theorem d_M_use_6 : decode b_M_use 6 = .ok (.iconst 3, 1) := by decide +kernel
theorem d_M_use_7 : decode b_M_use 7 = .ok (.if_icmp .eq 9, 3) := by decide +kernel
theorem d_M_use_10 : decode b_M_use 10 = .ok (.iload_n 1, 1) := by decide +kernel
theorem d_M_use_11 : decode b_M_use 11 = .ok (.bipush 6, 2) := by decide +kernel
theorem d_M_use_13 : decode b_M_use 13 = .ok (.if_icmp .ne 7, 3) := by decide +kernel
theorem d_M_use_16 : decode b_M_use 16 = .ok (.iconst 1, 1) := by decide +kernel
theorem d_M_use_17 : decode b_M_use 17 = .ok (.goto 4, 3) := by decide +kernel
theorem d_M_use_20 : decode b_M_use 20 = .ok (.iconst 0, 1) := by decide +kernel
theorem d_M_use_21 : decode b_M_use 21 = .ok (.istore 5, 2) := by decide +kernel
end
section
theorem d_M_use_23 : decode b_M_use 23 = .ok (.iload_n 1, 1) := by decide +kernel
theorem d_M_use_24 : decode b_M_use 24 = .ok (.iconst 0, 1) := by decide +kernel
theorem d_M_use_25 : decode b_M_use 25 = .ok (.bipush 6, 2) := by decide +kernel
theorem d_M_use_27 : decode b_M_use 27 = .ok (.invokestatic 47, 3) := by decide +kernel
theorem d_M_use_30 : decode b_M_use 30 = .ok (.ifCond .eq 45, 3) := by decide +kernel
theorem d_M_use_33 : decode b_M_use 33 = .ok (.iload_n 2, 1) := by decide +kernel
theorem d_M_use_34 : decode b_M_use 34 = .ok (.iconst 0, 1) := by decide +kernel
theorem d_M_use_35 : decode b_M_use 35 = .ok (.iconst 5, 1) := by decide +kernel
theorem d_M_use_36 : decode b_M_use 36 = .ok (.invokestatic 47, 3) := by decide +kernel
theorem d_M_use_39 : decode b_M_use 39 = .ok (.ifCond .eq 36, 3) := by decide +kernel
theorem d_M_use_42 : decode b_M_use 42 = .ok (.iload_n 3, 1) := by decide +kernel
theorem d_M_use_43 : decode b_M_use 43 = .ok (.iconst 0, 1) := by decide +kernel
theorem d_M_use_44 : decode b_M_use 44 = .ok (.iload 5, 2) := by decide +kernel
theorem d_M_use_46 : decode b_M_use 46 = .ok (.ifCond .eq 7, 3) := by decide +kernel
theorem d_M_use_49 : decode b_M_use 49 = .ok (.iconst 2, 1) := by decide +kernel
theorem d_M_use_50 : decode b_M_use 50 = .ok (.goto 4, 3) := by decide +kernel
theorem d_M_use_53 : decode b_M_use 53 = .ok (.iconst 3, 1) := by decide +kernel
theorem d_M_use_54 : decode b_M_use 54 = .ok (.invokestatic 47, 3) := by decide +kernel
theorem d_M_use_57 : decode b_M_use 57 = .ok (.ifCond .eq 18, 3) := by decide +kernel
theorem d_M_use_60 : decode b_M_use 60 = .ok (.iload 5, 2) := by decide +kernel
theorem d_M_use_62 : decode b_M_use 62 = .ok (.ifCond .eq 15, 3) := by decide +kernel
theorem d_M_use_65 : decode b_M_use 65 = .ok (.iload 4, 2) := by decide +kernel
theorem d_M_use_67 : decode b_M_use 67 = .ok (.iconst 0, 1) := by decide +kernel
theorem d_M_use_68 : decode b_M_use 68 = .ok (.iconst 3, 1) := by decide +kernel
theorem d_M_use_69 : decode b_M_use 69 = .ok (.invokestatic 47, 3) := by decide +kernel
theorem d_M_use_72 : decode b_M_use 72 = .ok (.ifCond .ne 5, 3) := by decide +kernel
theorem d_M_use_75 : decode b_M_use 75 = .ok (.iconst (-1), 1) := by decide +kernel
theorem d_M_use_76 : decode b_M_use 76 = .ok (.ireturn, 1) := by decide +kernel
theorem d_M_use_77 : decode b_M_use 77 = .ok (.aload_n 0, 1) := by decide +kernel
theorem d_M_use_78 : decode b_M_use 78 = .ok (.getfield 59, 3) := by decide +kernel
theorem d_M_use_81 : decode b_M_use 81 = .ok (.bipush 16, 2) := by decide +kernel
theorem d_M_use_83 : decode b_M_use 83 = .ok (.if_icmp .ne 6, 3) := by decide +kernel
theorem d_M_use_86 : decode b_M_use 86 = .ok (.bipush (-2), 2) := by decide +kernel
theorem d_M_use_88 : decode b_M_use 88 = .ok (.ireturn, 1) := by decide +kernel
theorem d_M_use_89 : decode b_M_use 89 = .ok (.aload_n 0, 1) := by decide +kernel
theorem d_M_use_90 : decode b_M_use 90 = .ok (.getfield 38, 3) := by decide +kernel
theorem d_M_use_93 : decode b_M_use 93 = .ok (.iconst 4, 1) := by decide +kernel
theorem d_M_use_94 : decode b_M_use 94 = .ok (.aload_n 0, 1) := by decide +kernel
theorem d_M_use_95 : decode b_M_use 95 = .ok (.getfield 59, 3) := by decide +kernel
theorem d_M_use_98 : decode b_M_use 98 = .ok (.imul, 1) := by decide +kernel
theorem d_M_use_99 : decode b_M_use 99 = .ok (.iload_n 1, 1) := by decide +kernel
theorem d_M_use_100 : decode b_M_use 100 = .ok (.iastore, 1) := by decide +kernel
theorem d_M_use_101 : decode b_M_use 101 = .ok (.aload_n 0, 1) := by decide +kernel
theorem d_M_use_102 : decode b_M_use 102 = .ok (.getfield 38, 3) := by decide +kernel
theorem d_M_use_105 : decode b_M_use 105 = .ok (.iconst 4, 1) := by decide +kernel
theorem d_M_use_106 : decode b_M_use 106 = .ok (.aload_n 0, 1) := by decide +kernel
theorem d_M_use_107 : decode b_M_use 107 = .ok (.getfield 59, 3) := by decide +kernel
theorem d_M_use_110 : decode b_M_use 110 = .ok (.imul, 1) := by decide +kernel
theorem d_M_use_111 : decode b_M_use 111 = .ok (.iconst 1, 1) := by decide +kernel
theorem d_M_use_112 : decode b_M_use 112 = .ok (.iadd, 1) := by decide +kernel
theorem d_M_use_113 : decode b_M_use 113 = .ok (.iload_n 2, 1) := by decide +kernel
theorem d_M_use_114 : decode b_M_use 114 = .ok (.iastore, 1) := by decide +kernel
theorem d_M_use_115 : decode b_M_use 115 = .ok (.aload_n 0, 1) := by decide +kernel
theorem d_M_use_116 : decode b_M_use 116 = .ok (.getfield 38, 3) := by decide +kernel
theorem d_M_use_119 : decode b_M_use 119 = .ok (.iconst 4, 1) := by decide +kernel
theorem d_M_use_120 : decode b_M_use 120 = .ok (.aload_n 0, 1) := by decide +kernel
theorem d_M_use_121 : decode b_M_use 121 = .ok (.getfield 59, 3) := by decide +kernel
theorem d_M_use_124 : decode b_M_use 124 = .ok (.imul, 1) := by decide +kernel
theorem d_M_use_125 : decode b_M_use 125 = .ok (.iconst 2, 1) := by decide +kernel
theorem d_M_use_126 : decode b_M_use 126 = .ok (.iadd, 1) := by decide +kernel
theorem d_M_use_127 : decode b_M_use 127 = .ok (.iload_n 3, 1) := by decide +kernel
theorem d_M_use_128 : decode b_M_use 128 = .ok (.iastore, 1) := by decide +kernel
theorem d_M_use_129 : decode b_M_use 129 = .ok (.aload_n 0, 1) := by decide +kernel
theorem d_M_use_130 : decode b_M_use 130 = .ok (.getfield 38, 3) := by decide +kernel
theorem d_M_use_133 : decode b_M_use 133 = .ok (.iconst 4, 1) := by decide +kernel
theorem d_M_use_134 : decode b_M_use 134 = .ok (.aload_n 0, 1) := by decide +kernel
theorem d_M_use_135 : decode b_M_use 135 = .ok (.getfield 59, 3) := by decide +kernel
theorem d_M_use_138 : decode b_M_use 138 = .ok (.imul, 1) := by decide +kernel
theorem d_M_use_139 : decode b_M_use 139 = .ok (.iconst 3, 1) := by decide +kernel
theorem d_M_use_140 : decode b_M_use 140 = .ok (.iadd, 1) := by decide +kernel
theorem d_M_use_141 : decode b_M_use 141 = .ok (.iload 4, 2) := by decide +kernel
theorem d_M_use_143 : decode b_M_use 143 = .ok (.iastore, 1) := by decide +kernel
theorem d_M_use_144 : decode b_M_use 144 = .ok (.aload_n 0, 1) := by decide +kernel
theorem d_M_use_145 : decode b_M_use 145 = .ok (.dup, 1) := by decide +kernel
theorem d_M_use_146 : decode b_M_use 146 = .ok (.getfield 59, 3) := by decide +kernel
theorem d_M_use_149 : decode b_M_use 149 = .ok (.iconst 1, 1) := by decide +kernel
theorem d_M_use_150 : decode b_M_use 150 = .ok (.iadd, 1) := by decide +kernel
theorem d_M_use_151 : decode b_M_use 151 = .ok (.putfield 59, 3) := by decide +kernel
theorem d_M_use_154 : decode b_M_use 154 = .ok (.aload_n 0, 1) := by decide +kernel
theorem d_M_use_155 : decode b_M_use 155 = .ok (.getfield 59, 3) := by decide +kernel
theorem d_M_use_158 : decode b_M_use 158 = .ok (.iconst 1, 1) := by decide +kernel
theorem d_M_use_159 : decode b_M_use 159 = .ok (.isub, 1) := by decide +kernel
theorem d_M_use_160 : decode b_M_use 160 = .ok (.ireturn, 1) := by decide +kernel
theorem d_M_findField_0 : decode b_M_findField 0 = .ok (.iconst 1, 1) := by decide +kernel
theorem d_M_findField_1 : decode b_M_findField 1 = .ok (.istore 5, 2) := by decide +kernel
theorem d_M_findField_3 : decode b_M_findField 3 = .ok (.aload_n 0, 1) := by decide +kernel
theorem d_M_findField_4 : decode b_M_findField 4 = .ok (.getfield 44, 3) := by decide +kernel
theorem d_M_findField_7 : decode b_M_findField 7 = .ok (.iconst 0, 1) := by decide +kernel
theorem d_M_findField_8 : decode b_M_findField 8 = .ok (.iload_n 2, 1) := by decide +kernel
theorem d_M_findField_9 : decode b_M_findField 9 = .ok (.iastore, 1) := by decide +kernel
theorem d_M_findField_10 : decode b_M_findField 10 = .ok (.iload 5, 2) := by decide +kernel
theorem d_M_findField_12 : decode b_M_findField 12 = .ok (.ifCond .le 134, 3) := by decide +kernel
theorem d_M_findField_15 : decode b_M_findField 15 = .ok (.iinc 5 (-1), 3) := by decide +kernel
theorem d_M_findField_18 : decode b_M_findField 18 = .ok (.bipush 6, 2) := by decide +kernel
theorem d_M_findField_20 : decode b_M_findField 20 = .ok (.iload_n 1, 1) := by decide +kernel
theorem d_M_findField_21 : decode b_M_findField 21 = .ok (.imul, 1) := by decide +kernel
theorem d_M_findField_22 : decode b_M_findField 22 = .ok (.aload_n 0, 1) := by decide +kernel
theorem d_M_findField_23 : decode b_M_findField 23 = .ok (.getfield 44, 3) := by decide +kernel
theorem d_M_findField_26 : decode b_M_findField 26 = .ok (.iload 5, 2) := by decide +kernel
theorem d_M_findField_28 : decode b_M_findField 28 = .ok (.iaload, 1) := by decide +kernel
theorem d_M_findField_29 : decode b_M_findField 29 = .ok (.iadd, 1) := by decide +kernel
theorem d_M_findField_30 : decode b_M_findField 30 = .ok (.istore 6, 2) := by decide +kernel
theorem d_M_findField_32 : decode b_M_findField 32 = .ok (.iconst 4, 1) := by decide +kernel
theorem d_M_findField_33 : decode b_M_findField 33 = .ok (.iload 6, 2) := by decide +kernel
theorem d_M_findField_35 : decode b_M_findField 35 = .ok (.imul, 1) := by decide +kernel
theorem d_M_findField_36 : decode b_M_findField 36 = .ok (.iload_n 3, 1) := by decide +kernel
theorem d_M_findField_37 : decode b_M_findField 37 = .ok (.iadd, 1) := by decide +kernel
theorem d_M_findField_38 : decode b_M_findField 38 = .ok (.istore 7, 2) := by decide +kernel
theorem d_M_findField_40 : decode b_M_findField 40 = .ok (.aload_n 0, 1) := by decide +kernel
theorem d_M_findField_41 : decode b_M_findField 41 = .ok (.getfield 23, 3) := by decide +kernel
theorem d_M_findField_44 : decode b_M_findField 44 = .ok (.iload 7, 2) := by decide +kernel
theorem d_M_findField_46 : decode b_M_findField 46 = .ok (.iaload, 1) := by decide +kernel
theorem d_M_findField_47 : decode b_M_findField 47 = .ok (.ifCond .lt 23, 3) := by decide +kernel
theorem d_M_findField_50 : decode b_M_findField 50 = .ok (.iload 4, 2) := by decide +kernel
theorem d_M_findField_52 : decode b_M_findField 52 = .ok (.ifCond .lt 15, 3) := by decide +kernel
theorem d_M_findField_55 : decode b_M_findField 55 = .ok (.aload_n 0, 1) := by decide +kernel
theorem d_M_findField_56 : decode b_M_findField 56 = .ok (.getfield 23, 3) := by decide +kernel
theorem d_M_findField_59 : decode b_M_findField 59 = .ok (.iload 7, 2) := by decide +kernel
theorem d_M_findField_61 : decode b_M_findField 61 = .ok (.iaload, 1) := by decide +kernel
theorem d_M_findField_62 : decode b_M_findField 62 = .ok (.iload 4, 2) := by decide +kernel
theorem d_M_findField_64 : decode b_M_findField 64 = .ok (.if_icmp .ne 6, 3) := by decide +kernel
theorem d_M_findField_67 : decode b_M_findField 67 = .ok (.iload 7, 2) := by decide +kernel
theorem d_M_findField_69 : decode b_M_findField 69 = .ok (.ireturn, 1) := by decide +kernel
theorem d_M_findField_70 : decode b_M_findField 70 = .ok (.aload_n 0, 1) := by decide +kernel
theorem d_M_findField_71 : decode b_M_findField 71 = .ok (.getfield 17, 3) := by decide +kernel
theorem d_M_findField_74 : decode b_M_findField 74 = .ok (.iload 6, 2) := by decide +kernel
theorem d_M_findField_76 : decode b_M_findField 76 = .ok (.iaload, 1) := by decide +kernel
theorem d_M_findField_77 : decode b_M_findField 77 = .ok (.bipush 6, 2) := by decide +kernel
theorem d_M_findField_79 : decode b_M_findField 79 = .ok (.if_icmp .ge 20, 3) := by decide +kernel
theorem d_M_findField_82 : decode b_M_findField 82 = .ok (.aload_n 0, 1) := by decide +kernel
theorem d_M_findField_83 : decode b_M_findField 83 = .ok (.getfield 44, 3) := by decide +kernel
theorem d_M_findField_86 : decode b_M_findField 86 = .ok (.iload 5, 2) := by decide +kernel
theorem d_M_findField_88 : decode b_M_findField 88 = .ok (.aload_n 0, 1) := by decide +kernel
theorem d_M_findField_89 : decode b_M_findField 89 = .ok (.getfield 17, 3) := by decide +kernel
theorem d_M_findField_92 : decode b_M_findField 92 = .ok (.iload 6, 2) := by decide +kernel
theorem d_M_findField_94 : decode b_M_findField 94 = .ok (.iaload, 1) := by decide +kernel
theorem d_M_findField_95 : decode b_M_findField 95 = .ok (.iastore, 1) := by decide +kernel
theorem d_M_findField_96 : decode b_M_findField 96 = .ok (.iinc 5 1, 3) := by decide +kernel
theorem d_M_findField_99 : decode b_M_findField 99 = .ok (.iconst 5, 1) := by decide +kernel
theorem d_M_findField_100 : decode b_M_findField 100 = .ok (.istore 8, 2) := by decide +kernel
theorem d_M_findField_102 : decode b_M_findField 102 = .ok (.iload 8, 2) := by decide +kernel
theorem d_M_findField_104 : decode b_M_findField 104 = .ok (.ifCond .lt 39, 3) := by decide +kernel
theorem d_M_findField_107 : decode b_M_findField 107 = .ok (.aload_n 0, 1) := by decide +kernel
theorem d_M_findField_108 : decode b_M_findField 108 = .ok (.getfield 20, 3) := by decide +kernel
theorem d_M_findField_111 : decode b_M_findField 111 = .ok (.iload 6, 2) := by decide +kernel
theorem d_M_findField_113 : decode b_M_findField 113 = .ok (.iaload, 1) := by decide +kernel
theorem d_M_findField_114 : decode b_M_findField 114 = .ok (.iload 8, 2) := by decide +kernel
theorem d_M_findField_116 : decode b_M_findField 116 = .ok (.ishr, 1) := by decide +kernel
theorem d_M_findField_117 : decode b_M_findField 117 = .ok (.iconst 1, 1) := by decide +kernel
theorem d_M_findField_118 : decode b_M_findField 118 = .ok (.iand, 1) := by decide +kernel
theorem d_M_findField_119 : decode b_M_findField 119 = .ok (.ifCond .ne 6, 3) := by decide +kernel
theorem d_M_findField_122 : decode b_M_findField 122 = .ok (.goto 15, 3) := by decide +kernel
theorem d_M_findField_125 : decode b_M_findField 125 = .ok (.aload_n 0, 1) := by decide +kernel
theorem d_M_findField_126 : decode b_M_findField 126 = .ok (.getfield 44, 3) := by decide +kernel
theorem d_M_findField_129 : decode b_M_findField 129 = .ok (.iload 5, 2) := by decide +kernel
theorem d_M_findField_131 : decode b_M_findField 131 = .ok (.iload 8, 2) := by decide +kernel
theorem d_M_findField_133 : decode b_M_findField 133 = .ok (.iastore, 1) := by decide +kernel
theorem d_M_findField_134 : decode b_M_findField 134 = .ok (.iinc 5 1, 3) := by decide +kernel
theorem d_M_findField_137 : decode b_M_findField 137 = .ok (.iinc 8 (-1), 3) := by decide +kernel
theorem d_M_findField_140 : decode b_M_findField 140 = .ok (.goto (-38), 3) := by decide +kernel
theorem d_M_findField_143 : decode b_M_findField 143 = .ok (.goto (-133), 3) := by decide +kernel
theorem d_M_findField_146 : decode b_M_findField 146 = .ok (.iconst (-1), 1) := by decide +kernel
theorem d_M_findField_147 : decode b_M_findField 147 = .ok (.ireturn, 1) := by decide +kernel
theorem d_M_isUnder_0 : decode b_M_isUnder 0 = .ok (.iconst 1, 1) := by decide +kernel
theorem d_M_isUnder_1 : decode b_M_isUnder 1 = .ok (.iload_n 2, 1) := by decide +kernel
theorem d_M_isUnder_2 : decode b_M_isUnder 2 = .ok (.ishl, 1) := by decide +kernel
theorem d_M_isUnder_3 : decode b_M_isUnder 3 = .ok (.istore 4, 2) := by decide +kernel
theorem d_M_isUnder_5 : decode b_M_isUnder 5 = .ok (.iload_n 2, 1) := by decide +kernel
theorem d_M_isUnder_6 : decode b_M_isUnder 6 = .ok (.istore 5, 2) := by decide +kernel
theorem d_M_isUnder_8 : decode b_M_isUnder 8 = .ok (.iload 5, 2) := by decide +kernel
theorem d_M_isUnder_10 : decode b_M_isUnder 10 = .ok (.ifCond .lt 69, 3) := by decide +kernel
theorem d_M_isUnder_13 : decode b_M_isUnder 13 = .ok (.bipush 6, 2) := by decide +kernel
theorem d_M_isUnder_15 : decode b_M_isUnder 15 = .ok (.iload_n 1, 1) := by decide +kernel
theorem d_M_isUnder_16 : decode b_M_isUnder 16 = .ok (.imul, 1) := by decide +kernel
theorem d_M_isUnder_17 : decode b_M_isUnder 17 = .ok (.iload 5, 2) := by decide +kernel
theorem d_M_isUnder_19 : decode b_M_isUnder 19 = .ok (.iadd, 1) := by decide +kernel
theorem d_M_isUnder_20 : decode b_M_isUnder 20 = .ok (.istore 6, 2) := by decide +kernel
theorem d_M_isUnder_22 : decode b_M_isUnder 22 = .ok (.iload 4, 2) := by decide +kernel
theorem d_M_isUnder_24 : decode b_M_isUnder 24 = .ok (.iload 5, 2) := by decide +kernel
theorem d_M_isUnder_26 : decode b_M_isUnder 26 = .ok (.ishr, 1) := by decide +kernel
theorem d_M_isUnder_27 : decode b_M_isUnder 27 = .ok (.iconst 1, 1) := by decide +kernel
theorem d_M_isUnder_28 : decode b_M_isUnder 28 = .ok (.iand, 1) := by decide +kernel
theorem d_M_isUnder_29 : decode b_M_isUnder 29 = .ok (.ifCond .ne 6, 3) := by decide +kernel
theorem d_M_isUnder_32 : decode b_M_isUnder 32 = .ok (.goto 41, 3) := by decide +kernel
theorem d_M_isUnder_35 : decode b_M_isUnder 35 = .ok (.iload 4, 2) := by decide +kernel
theorem d_M_isUnder_37 : decode b_M_isUnder 37 = .ok (.aload_n 0, 1) := by decide +kernel
theorem d_M_isUnder_38 : decode b_M_isUnder 38 = .ok (.getfield 20, 3) := by decide +kernel
theorem d_M_isUnder_41 : decode b_M_isUnder 41 = .ok (.iload 6, 2) := by decide +kernel
theorem d_M_isUnder_43 : decode b_M_isUnder 43 = .ok (.iaload, 1) := by decide +kernel
theorem d_M_isUnder_44 : decode b_M_isUnder 44 = .ok (.ior, 1) := by decide +kernel
theorem d_M_isUnder_45 : decode b_M_isUnder 45 = .ok (.istore 4, 2) := by decide +kernel
theorem d_M_isUnder_47 : decode b_M_isUnder 47 = .ok (.aload_n 0, 1) := by decide +kernel
theorem d_M_isUnder_48 : decode b_M_isUnder 48 = .ok (.getfield 17, 3) := by decide +kernel
theorem d_M_isUnder_51 : decode b_M_isUnder 51 = .ok (.iload 6, 2) := by decide +kernel
theorem d_M_isUnder_53 : decode b_M_isUnder 53 = .ok (.iaload, 1) := by decide +kernel
theorem d_M_isUnder_54 : decode b_M_isUnder 54 = .ok (.bipush 6, 2) := by decide +kernel
theorem d_M_isUnder_56 : decode b_M_isUnder 56 = .ok (.if_icmp .ge 17, 3) := by decide +kernel
theorem d_M_isUnder_59 : decode b_M_isUnder 59 = .ok (.iload 4, 2) := by decide +kernel
theorem d_M_isUnder_61 : decode b_M_isUnder 61 = .ok (.iconst 1, 1) := by decide +kernel
theorem d_M_isUnder_62 : decode b_M_isUnder 62 = .ok (.aload_n 0, 1) := by decide +kernel
theorem d_M_isUnder_63 : decode b_M_isUnder 63 = .ok (.getfield 17, 3) := by decide +kernel
theorem d_M_isUnder_66 : decode b_M_isUnder 66 = .ok (.iload 6, 2) := by decide +kernel
theorem d_M_isUnder_68 : decode b_M_isUnder 68 = .ok (.iaload, 1) := by decide +kernel
theorem d_M_isUnder_69 : decode b_M_isUnder 69 = .ok (.ishl, 1) := by decide +kernel
theorem d_M_isUnder_70 : decode b_M_isUnder 70 = .ok (.ior, 1) := by decide +kernel
theorem d_M_isUnder_71 : decode b_M_isUnder 71 = .ok (.istore 4, 2) := by decide +kernel
theorem d_M_isUnder_73 : decode b_M_isUnder 73 = .ok (.iinc 5 (-1), 3) := by decide +kernel
theorem d_M_isUnder_76 : decode b_M_isUnder 76 = .ok (.goto (-68), 3) := by decide +kernel
theorem d_M_isUnder_79 : decode b_M_isUnder 79 = .ok (.iload 4, 2) := by decide +kernel
theorem d_M_isUnder_81 : decode b_M_isUnder 81 = .ok (.iload_n 3, 1) := by decide +kernel
theorem d_M_isUnder_82 : decode b_M_isUnder 82 = .ok (.ishr, 1) := by decide +kernel
theorem d_M_isUnder_83 : decode b_M_isUnder 83 = .ok (.iconst 1, 1) := by decide +kernel
theorem d_M_isUnder_84 : decode b_M_isUnder 84 = .ok (.iand, 1) := by decide +kernel
theorem d_M_isUnder_85 : decode b_M_isUnder 85 = .ok (.ifCond .eq 7, 3) := by decide +kernel
theorem d_M_isUnder_88 : decode b_M_isUnder 88 = .ok (.iconst 1, 1) := by decide +kernel
theorem d_M_isUnder_89 : decode b_M_isUnder 89 = .ok (.goto 4, 3) := by decide +kernel
theorem d_M_isUnder_92 : decode b_M_isUnder 92 = .ok (.iconst 0, 1) := by decide +kernel
theorem d_M_isUnder_93 : decode b_M_isUnder 93 = .ok (.ireturn, 1) := by decide +kernel
theorem d_M_isMethod_0 : decode b_M_isMethod 0 = .ok (.aload_n 0, 1) := by decide +kernel
theorem d_M_isMethod_1 : decode b_M_isMethod 1 = .ok (.getfield 32, 3) := by decide +kernel
theorem d_M_isMethod_4 : decode b_M_isMethod 4 = .ok (.iload_n 1, 1) := by decide +kernel
theorem d_M_isMethod_5 : decode b_M_isMethod 5 = .ok (.iaload, 1) := by decide +kernel
theorem d_M_isMethod_6 : decode b_M_isMethod 6 = .ok (.ifCond .lt 21, 3) := by decide +kernel
theorem d_M_isMethod_9 : decode b_M_isMethod 9 = .ok (.iload_n 2, 1) := by decide +kernel
theorem d_M_isMethod_10 : decode b_M_isMethod 10 = .ok (.ifCond .lt 13, 3) := by decide +kernel
theorem d_M_isMethod_13 : decode b_M_isMethod 13 = .ok (.aload_n 0, 1) := by decide +kernel
theorem d_M_isMethod_14 : decode b_M_isMethod 14 = .ok (.getfield 32, 3) := by decide +kernel
theorem d_M_isMethod_17 : decode b_M_isMethod 17 = .ok (.iload_n 1, 1) := by decide +kernel
theorem d_M_isMethod_18 : decode b_M_isMethod 18 = .ok (.iaload, 1) := by decide +kernel
theorem d_M_isMethod_19 : decode b_M_isMethod 19 = .ok (.iload_n 2, 1) := by decide +kernel
theorem d_M_isMethod_20 : decode b_M_isMethod 20 = .ok (.if_icmp .ne 7, 3) := by decide +kernel
theorem d_M_isMethod_23 : decode b_M_isMethod 23 = .ok (.iconst 1, 1) := by decide +kernel
theorem d_M_isMethod_24 : decode b_M_isMethod 24 = .ok (.goto 4, 3) := by decide +kernel
theorem d_M_isMethod_27 : decode b_M_isMethod 27 = .ok (.iconst 0, 1) := by decide +kernel
theorem d_M_isMethod_28 : decode b_M_isMethod 28 = .ok (.ireturn, 1) := by decide +kernel
theorem d_M_findMethod_0 : decode b_M_findMethod 0 = .ok (.iconst 4, 1) := by decide +kernel
theorem d_M_findMethod_1 : decode b_M_findMethod 1 = .ok (.iload_n 3, 1) := by decide +kernel
theorem d_M_findMethod_2 : decode b_M_findMethod 2 = .ok (.imul, 1) := by decide +kernel
theorem d_M_findMethod_3 : decode b_M_findMethod 3 = .ok (.iload 4, 2) := by decide +kernel
theorem d_M_findMethod_5 : decode b_M_findMethod 5 = .ok (.iadd, 1) := by decide +kernel
theorem d_M_findMethod_6 : decode b_M_findMethod 6 = .ok (.istore 6, 2) := by decide +kernel
theorem d_M_findMethod_8 : decode b_M_findMethod 8 = .ok (.iload_n 2, 1) := by decide +kernel
theorem d_M_findMethod_9 : decode b_M_findMethod 9 = .ok (.istore 7, 2) := by decide +kernel
theorem d_M_findMethod_11 : decode b_M_findMethod 11 = .ok (.iload 7, 2) := by decide +kernel
theorem d_M_findMethod_13 : decode b_M_findMethod 13 = .ok (.bipush 6, 2) := by decide +kernel
theorem d_M_findMethod_15 : decode b_M_findMethod 15 = .ok (.if_icmp .ge 49, 3) := by decide +kernel
theorem d_M_findMethod_18 : decode b_M_findMethod 18 = .ok (.bipush 12, 2) := by decide +kernel
theorem d_M_findMethod_20 : decode b_M_findMethod 20 = .ok (.bipush 6, 2) := by decide +kernel
theorem d_M_findMethod_22 : decode b_M_findMethod 22 = .ok (.iload_n 1, 1) := by decide +kernel
theorem d_M_findMethod_23 : decode b_M_findMethod 23 = .ok (.imul, 1) := by decide +kernel
theorem d_M_findMethod_24 : decode b_M_findMethod 24 = .ok (.iload 7, 2) := by decide +kernel
theorem d_M_findMethod_26 : decode b_M_findMethod 26 = .ok (.iadd, 1) := by decide +kernel
theorem d_M_findMethod_27 : decode b_M_findMethod 27 = .ok (.imul, 1) := by decide +kernel
theorem d_M_findMethod_28 : decode b_M_findMethod 28 = .ok (.iload 6, 2) := by decide +kernel
theorem d_M_findMethod_30 : decode b_M_findMethod 30 = .ok (.iadd, 1) := by decide +kernel
theorem d_M_findMethod_31 : decode b_M_findMethod 31 = .ok (.istore 8, 2) := by decide +kernel
theorem d_M_findMethod_33 : decode b_M_findMethod 33 = .ok (.aload_n 0, 1) := by decide +kernel
theorem d_M_findMethod_34 : decode b_M_findMethod 34 = .ok (.iload 8, 2) := by decide +kernel
theorem d_M_findMethod_36 : decode b_M_findMethod 36 = .ok (.iload 5, 2) := by decide +kernel
theorem d_M_findMethod_38 : decode b_M_findMethod 38 = .ok (.invokevirtual 63, 3) := by decide +kernel
theorem d_M_findMethod_41 : decode b_M_findMethod 41 = .ok (.ifCond .eq 6, 3) := by decide +kernel
theorem d_M_findMethod_44 : decode b_M_findMethod 44 = .ok (.iload 8, 2) := by decide +kernel
theorem d_M_findMethod_46 : decode b_M_findMethod 46 = .ok (.ireturn, 1) := by decide +kernel
theorem d_M_findMethod_47 : decode b_M_findMethod 47 = .ok (.aload_n 0, 1) := by decide +kernel
theorem d_M_findMethod_48 : decode b_M_findMethod 48 = .ok (.getfield 17, 3) := by decide +kernel
theorem d_M_findMethod_51 : decode b_M_findMethod 51 = .ok (.bipush 6, 2) := by decide +kernel
theorem d_M_findMethod_53 : decode b_M_findMethod 53 = .ok (.iload_n 1, 1) := by decide +kernel
theorem d_M_findMethod_54 : decode b_M_findMethod 54 = .ok (.imul, 1) := by decide +kernel
theorem d_M_findMethod_55 : decode b_M_findMethod 55 = .ok (.iload 7, 2) := by decide +kernel
theorem d_M_findMethod_57 : decode b_M_findMethod 57 = .ok (.iadd, 1) := by decide +kernel
theorem d_M_findMethod_58 : decode b_M_findMethod 58 = .ok (.iaload, 1) := by decide +kernel
theorem d_M_findMethod_59 : decode b_M_findMethod 59 = .ok (.istore 7, 2) := by decide +kernel
theorem d_M_findMethod_61 : decode b_M_findMethod 61 = .ok (.goto (-50), 3) := by decide +kernel
theorem d_M_findMethod_64 : decode b_M_findMethod 64 = .ok (.iconst 5, 1) := by decide +kernel
theorem d_M_findMethod_65 : decode b_M_findMethod 65 = .ok (.istore 8, 2) := by decide +kernel
theorem d_M_findMethod_67 : decode b_M_findMethod 67 = .ok (.iload 8, 2) := by decide +kernel
theorem d_M_findMethod_69 : decode b_M_findMethod 69 = .ok (.ifCond .lt 77, 3) := by decide +kernel
theorem d_M_findMethod_72 : decode b_M_findMethod 72 = .ok (.bipush 6, 2) := by decide +kernel
theorem d_M_findMethod_74 : decode b_M_findMethod 74 = .ok (.iload_n 1, 1) := by decide +kernel
theorem d_M_findMethod_75 : decode b_M_findMethod 75 = .ok (.imul, 1) := by decide +kernel
theorem d_M_findMethod_76 : decode b_M_findMethod 76 = .ok (.iload 8, 2) := by decide +kernel
theorem d_M_findMethod_78 : decode b_M_findMethod 78 = .ok (.iadd, 1) := by decide +kernel
theorem d_M_findMethod_79 : decode b_M_findMethod 79 = .ok (.istore 9, 2) := by decide +kernel
theorem d_M_findMethod_81 : decode b_M_findMethod 81 = .ok (.aload_n 0, 1) := by decide +kernel
theorem d_M_findMethod_82 : decode b_M_findMethod 82 = .ok (.getfield 7, 3) := by decide +kernel
theorem d_M_findMethod_85 : decode b_M_findMethod 85 = .ok (.iload 9, 2) := by decide +kernel
theorem d_M_findMethod_87 : decode b_M_findMethod 87 = .ok (.baload, 1) := by decide +kernel
theorem d_M_findMethod_88 : decode b_M_findMethod 88 = .ok (.ifCond .eq 52, 3) := by decide +kernel
theorem d_M_findMethod_91 : decode b_M_findMethod 91 = .ok (.aload_n 0, 1) := by decide +kernel
theorem d_M_findMethod_92 : decode b_M_findMethod 92 = .ok (.getfield 13, 3) := by decide +kernel
theorem d_M_findMethod_95 : decode b_M_findMethod 95 = .ok (.iload 9, 2) := by decide +kernel
theorem d_M_findMethod_97 : decode b_M_findMethod 97 = .ok (.iaload, 1) := by decide +kernel
theorem d_M_findMethod_98 : decode b_M_findMethod 98 = .ok (.iconst 1, 1) := by decide +kernel
theorem d_M_findMethod_99 : decode b_M_findMethod 99 = .ok (.iand, 1) := by decide +kernel
theorem d_M_findMethod_100 : decode b_M_findMethod 100 = .ok (.ifCond .eq 40, 3) := by decide +kernel
theorem d_M_findMethod_103 : decode b_M_findMethod 103 = .ok (.aload_n 0, 1) := by decide +kernel
theorem d_M_findMethod_104 : decode b_M_findMethod 104 = .ok (.iload_n 1, 1) := by decide +kernel
theorem d_M_findMethod_105 : decode b_M_findMethod 105 = .ok (.iload_n 2, 1) := by decide +kernel
theorem d_M_findMethod_106 : decode b_M_findMethod 106 = .ok (.iload 8, 2) := by decide +kernel
theorem d_M_findMethod_108 : decode b_M_findMethod 108 = .ok (.invokevirtual 66, 3) := by decide +kernel
theorem d_M_findMethod_111 : decode b_M_findMethod 111 = .ok (.ifCond .eq 29, 3) := by decide +kernel
theorem d_M_findMethod_114 : decode b_M_findMethod 114 = .ok (.aload_n 0, 1) := by decide +kernel
theorem d_M_findMethod_115 : decode b_M_findMethod 115 = .ok (.bipush 12, 2) := by decide +kernel
theorem d_M_findMethod_117 : decode b_M_findMethod 117 = .ok (.iload 9, 2) := by decide +kernel
theorem d_M_findMethod_119 : decode b_M_findMethod 119 = .ok (.imul, 1) := by decide +kernel
theorem d_M_findMethod_120 : decode b_M_findMethod 120 = .ok (.iload 6, 2) := by decide +kernel
theorem d_M_findMethod_122 : decode b_M_findMethod 122 = .ok (.iadd, 1) := by decide +kernel
theorem d_M_findMethod_123 : decode b_M_findMethod 123 = .ok (.iload 5, 2) := by decide +kernel
theorem d_M_findMethod_125 : decode b_M_findMethod 125 = .ok (.invokevirtual 63, 3) := by decide +kernel
theorem d_M_findMethod_128 : decode b_M_findMethod 128 = .ok (.ifCond .eq 12, 3) := by decide +kernel
theorem d_M_findMethod_131 : decode b_M_findMethod 131 = .ok (.bipush 12, 2) := by decide +kernel
theorem d_M_findMethod_133 : decode b_M_findMethod 133 = .ok (.iload 9, 2) := by decide +kernel
theorem d_M_findMethod_135 : decode b_M_findMethod 135 = .ok (.imul, 1) := by decide +kernel
theorem d_M_findMethod_136 : decode b_M_findMethod 136 = .ok (.iload 6, 2) := by decide +kernel
theorem d_M_findMethod_138 : decode b_M_findMethod 138 = .ok (.iadd, 1) := by decide +kernel
theorem d_M_findMethod_139 : decode b_M_findMethod 139 = .ok (.ireturn, 1) := by decide +kernel
theorem d_M_findMethod_140 : decode b_M_findMethod 140 = .ok (.iinc 8 (-1), 3) := by decide +kernel
theorem d_M_findMethod_143 : decode b_M_findMethod 143 = .ok (.goto (-76), 3) := by decide +kernel
theorem d_M_findMethod_146 : decode b_M_findMethod 146 = .ok (.iconst (-1), 1) := by decide +kernel
theorem d_M_findMethod_147 : decode b_M_findMethod 147 = .ok (.ireturn, 1) := by decide +kernel
theorem d_M_bindField_0 : decode b_M_bindField 0 = .ok (.bipush 7, 2) := by decide +kernel
theorem d_M_bindField_2 : decode b_M_bindField 2 = .ok (.iload_n 1, 1) := by decide +kernel
theorem d_M_bindField_3 : decode b_M_bindField 3 = .ok (.imul, 1) := by decide +kernel
theorem d_M_bindField_4 : decode b_M_bindField 4 = .ok (.istore 5, 2) := by decide +kernel
theorem d_M_bindField_6 : decode b_M_bindField 6 = .ok (.aload_n 0, 1) := by decide +kernel
theorem d_M_bindField_7 : decode b_M_bindField 7 = .ok (.iload_n 1, 1) := by decide +kernel
theorem d_M_bindField_8 : decode b_M_bindField 8 = .ok (.iload_n 3, 1) := by decide +kernel
theorem d_M_bindField_9 : decode b_M_bindField 9 = .ok (.iload 4, 2) := by decide +kernel
theorem d_M_bindField_11 : decode b_M_bindField 11 = .ok (.iconst (-1), 1) := by decide +kernel
theorem d_M_bindField_12 : decode b_M_bindField 12 = .ok (.invokevirtual 69, 3) := by decide +kernel
theorem d_M_bindField_15 : decode b_M_bindField 15 = .ok (.istore 6, 2) := by decide +kernel
theorem d_M_bindField_17 : decode b_M_bindField 17 = .ok (.iload 6, 2) := by decide +kernel
theorem d_M_bindField_19 : decode b_M_bindField 19 = .ok (.ifCond .lt 16, 3) := by decide +kernel
theorem d_M_bindField_22 : decode b_M_bindField 22 = .ok (.aload_n 0, 1) := by decide +kernel
theorem d_M_bindField_23 : decode b_M_bindField 23 = .ok (.getfield 26, 3) := by decide +kernel
theorem d_M_bindField_26 : decode b_M_bindField 26 = .ok (.iload 6, 2) := by decide +kernel
theorem d_M_bindField_28 : decode b_M_bindField 28 = .ok (.iaload, 1) := by decide +kernel
theorem d_M_bindField_29 : decode b_M_bindField 29 = .ok (.bipush 8, 2) := by decide +kernel
theorem d_M_bindField_31 : decode b_M_bindField 31 = .ok (.iand, 1) := by decide +kernel
theorem d_M_bindField_32 : decode b_M_bindField 32 = .ok (.ifCond .eq 6, 3) := by decide +kernel
theorem d_M_bindField_35 : decode b_M_bindField 35 = .ok (.bipush (-4), 2) := by decide +kernel
theorem d_M_bindField_37 : decode b_M_bindField 37 = .ok (.ireturn, 1) := by decide +kernel
theorem d_M_bindField_38 : decode b_M_bindField 38 = .ok (.iload_n 2, 1) := by decide +kernel
theorem d_M_bindField_39 : decode b_M_bindField 39 = .ok (.iconst 1, 1) := by decide +kernel
theorem d_M_bindField_40 : decode b_M_bindField 40 = .ok (.if_icmp .ne 18, 3) := by decide +kernel
theorem d_M_bindField_43 : decode b_M_bindField 43 = .ok (.aload_n 0, 1) := by decide +kernel
theorem d_M_bindField_44 : decode b_M_bindField 44 = .ok (.getfield 26, 3) := by decide +kernel
theorem d_M_bindField_47 : decode b_M_bindField 47 = .ok (.iload 6, 2) := by decide +kernel
theorem d_M_bindField_49 : decode b_M_bindField 49 = .ok (.iaload, 1) := by decide +kernel
theorem d_M_bindField_50 : decode b_M_bindField 50 = .ok (.iconst 4, 1) := by decide +kernel
theorem d_M_bindField_51 : decode b_M_bindField 51 = .ok (.iand, 1) := by decide +kernel
theorem d_M_bindField_52 : decode b_M_bindField 52 = .ok (.ifCond .eq 6, 3) := by decide +kernel
theorem d_M_bindField_55 : decode b_M_bindField 55 = .ok (.bipush (-5), 2) := by decide +kernel
theorem d_M_bindField_57 : decode b_M_bindField 57 = .ok (.ireturn, 1) := by decide +kernel
theorem d_M_bindField_58 : decode b_M_bindField 58 = .ok (.aload_n 0, 1) := by decide +kernel
theorem d_M_bindField_59 : decode b_M_bindField 59 = .ok (.getfield 41, 3) := by decide +kernel
theorem d_M_bindField_62 : decode b_M_bindField 62 = .ok (.iload 5, 2) := by decide +kernel
theorem d_M_bindField_64 : decode b_M_bindField 64 = .ok (.iload_n 2, 1) := by decide +kernel
theorem d_M_bindField_65 : decode b_M_bindField 65 = .ok (.ifCond .ne 20, 3) := by decide +kernel
theorem d_M_bindField_68 : decode b_M_bindField 68 = .ok (.aload_n 0, 1) := by decide +kernel
theorem d_M_bindField_69 : decode b_M_bindField 69 = .ok (.getfield 26, 3) := by decide +kernel
theorem d_M_bindField_72 : decode b_M_bindField 72 = .ok (.iload 6, 2) := by decide +kernel
theorem d_M_bindField_74 : decode b_M_bindField 74 = .ok (.iaload, 1) := by decide +kernel
theorem d_M_bindField_75 : decode b_M_bindField 75 = .ok (.bipush 16, 2) := by decide +kernel
theorem d_M_bindField_77 : decode b_M_bindField 77 = .ok (.iand, 1) := by decide +kernel
theorem d_M_bindField_78 : decode b_M_bindField 78 = .ok (.ifCond .eq 7, 3) := by decide +kernel
theorem d_M_bindField_81 : decode b_M_bindField 81 = .ok (.iconst 1, 1) := by decide +kernel
theorem d_M_bindField_82 : decode b_M_bindField 82 = .ok (.goto 4, 3) := by decide +kernel
theorem d_M_bindField_85 : decode b_M_bindField 85 = .ok (.iconst 0, 1) := by decide +kernel
theorem d_M_bindField_86 : decode b_M_bindField 86 = .ok (.iastore, 1) := by decide +kernel
theorem d_M_bindField_87 : decode b_M_bindField 87 = .ok (.aload_n 0, 1) := by decide +kernel
theorem d_M_bindField_88 : decode b_M_bindField 88 = .ok (.getfield 41, 3) := by decide +kernel
theorem d_M_bindField_91 : decode b_M_bindField 91 = .ok (.iload 5, 2) := by decide +kernel
theorem d_M_bindField_93 : decode b_M_bindField 93 = .ok (.iconst 1, 1) := by decide +kernel
theorem d_M_bindField_94 : decode b_M_bindField 94 = .ok (.iadd, 1) := by decide +kernel
theorem d_M_bindField_95 : decode b_M_bindField 95 = .ok (.aload_n 0, 1) := by decide +kernel
theorem d_M_bindField_96 : decode b_M_bindField 96 = .ok (.getfield 23, 3) := by decide +kernel
theorem d_M_bindField_99 : decode b_M_bindField 99 = .ok (.iload 6, 2) := by decide +kernel
theorem d_M_bindField_101 : decode b_M_bindField 101 = .ok (.iaload, 1) := by decide +kernel
theorem d_M_bindField_102 : decode b_M_bindField 102 = .ok (.iastore, 1) := by decide +kernel
theorem d_M_bindField_103 : decode b_M_bindField 103 = .ok (.aload_n 0, 1) := by decide +kernel
theorem d_M_bindField_104 : decode b_M_bindField 104 = .ok (.getfield 41, 3) := by decide +kernel
theorem d_M_bindField_107 : decode b_M_bindField 107 = .ok (.iload 5, 2) := by decide +kernel
theorem d_M_bindField_109 : decode b_M_bindField 109 = .ok (.iconst 3, 1) := by decide +kernel
theorem d_M_bindField_110 : decode b_M_bindField 110 = .ok (.iadd, 1) := by decide +kernel
theorem d_M_bindField_111 : decode b_M_bindField 111 = .ok (.aload_n 0, 1) := by decide +kernel
theorem d_M_bindField_112 : decode b_M_bindField 112 = .ok (.getfield 41, 3) := by decide +kernel
theorem d_M_bindField_115 : decode b_M_bindField 115 = .ok (.iload 5, 2) := by decide +kernel
theorem d_M_bindField_117 : decode b_M_bindField 117 = .ok (.iaload, 1) := by decide +kernel
theorem d_M_bindField_118 : decode b_M_bindField 118 = .ok (.iconst 1, 1) := by decide +kernel
theorem d_M_bindField_119 : decode b_M_bindField 119 = .ok (.if_icmp .ne 7, 3) := by decide +kernel
theorem d_M_bindField_122 : decode b_M_bindField 122 = .ok (.iconst 0, 1) := by decide +kernel
theorem d_M_bindField_123 : decode b_M_bindField 123 = .ok (.goto 14, 3) := by decide +kernel
theorem d_M_bindField_126 : decode b_M_bindField 126 = .ok (.aload_n 0, 1) := by decide +kernel
theorem d_M_bindField_127 : decode b_M_bindField 127 = .ok (.getfield 26, 3) := by decide +kernel
theorem d_M_bindField_130 : decode b_M_bindField 130 = .ok (.iload 6, 2) := by decide +kernel
theorem d_M_bindField_132 : decode b_M_bindField 132 = .ok (.iaload, 1) := by decide +kernel
theorem d_M_bindField_133 : decode b_M_bindField 133 = .ok (.iconst 1, 1) := by decide +kernel
theorem d_M_bindField_134 : decode b_M_bindField 134 = .ok (.invokestatic 73, 3) := by decide +kernel
theorem d_M_bindField_137 : decode b_M_bindField 137 = .ok (.iastore, 1) := by decide +kernel
theorem d_M_bindField_138 : decode b_M_bindField 138 = .ok (.aload_n 0, 1) := by decide +kernel
theorem d_M_bindField_139 : decode b_M_bindField 139 = .ok (.getfield 41, 3) := by decide +kernel
theorem d_M_bindField_142 : decode b_M_bindField 142 = .ok (.iload 5, 2) := by decide +kernel
theorem d_M_bindField_144 : decode b_M_bindField 144 = .ok (.iconst 5, 1) := by decide +kernel
theorem d_M_bindField_145 : decode b_M_bindField 145 = .ok (.iadd, 1) := by decide +kernel
theorem d_M_bindField_146 : decode b_M_bindField 146 = .ok (.aload_n 0, 1) := by decide +kernel
theorem d_M_bindField_147 : decode b_M_bindField 147 = .ok (.getfield 41, 3) := by decide +kernel
theorem d_M_bindField_150 : decode b_M_bindField 150 = .ok (.iload 5, 2) := by decide +kernel
theorem d_M_bindField_152 : decode b_M_bindField 152 = .ok (.iaload, 1) := by decide +kernel
theorem d_M_bindField_153 : decode b_M_bindField 153 = .ok (.iconst 1, 1) := by decide +kernel
theorem d_M_bindField_154 : decode b_M_bindField 154 = .ok (.if_icmp .ne 13, 3) := by decide +kernel
theorem d_M_bindField_157 : decode b_M_bindField 157 = .ok (.aload_n 0, 1) := by decide +kernel
theorem d_M_bindField_158 : decode b_M_bindField 158 = .ok (.getfield 29, 3) := by decide +kernel
theorem d_M_bindField_161 : decode b_M_bindField 161 = .ok (.iload 6, 2) := by decide +kernel
theorem d_M_bindField_163 : decode b_M_bindField 163 = .ok (.iaload, 1) := by decide +kernel
theorem d_M_bindField_164 : decode b_M_bindField 164 = .ok (.goto 4, 3) := by decide +kernel
theorem d_M_bindField_167 : decode b_M_bindField 167 = .ok (.iconst 0, 1) := by decide +kernel
theorem d_M_bindField_168 : decode b_M_bindField 168 = .ok (.iastore, 1) := by decide +kernel
theorem d_M_bindField_169 : decode b_M_bindField 169 = .ok (.iconst 0, 1) := by decide +kernel
theorem d_M_bindField_170 : decode b_M_bindField 170 = .ok (.ireturn, 1) := by decide +kernel
theorem d_M_bindMethod_0 : decode b_M_bindMethod 0 = .ok (.bipush 7, 2) := by decide +kernel
theorem d_M_bindMethod_2 : decode b_M_bindMethod 2 = .ok (.iload_n 1, 1) := by decide +kernel
theorem d_M_bindMethod_3 : decode b_M_bindMethod 3 = .ok (.imul, 1) := by decide +kernel
theorem d_M_bindMethod_4 : decode b_M_bindMethod 4 = .ok (.istore 4, 2) := by decide +kernel
theorem d_M_bindMethod_6 : decode b_M_bindMethod 6 = .ok (.aload_n 0, 1) := by decide +kernel
theorem d_M_bindMethod_7 : decode b_M_bindMethod 7 = .ok (.getfield 41, 3) := by decide +kernel
theorem d_M_bindMethod_10 : decode b_M_bindMethod 10 = .ok (.iload 4, 2) := by decide +kernel
theorem d_M_bindMethod_12 : decode b_M_bindMethod 12 = .ok (.iconst 1, 1) := by decide +kernel
theorem d_M_bindMethod_13 : decode b_M_bindMethod 13 = .ok (.iadd, 1) := by decide +kernel
theorem d_M_bindMethod_14 : decode b_M_bindMethod 14 = .ok (.iload_n 3, 1) := by decide +kernel
theorem d_M_bindMethod_15 : decode b_M_bindMethod 15 = .ok (.iastore, 1) := by decide +kernel
theorem d_M_bindMethod_16 : decode b_M_bindMethod 16 = .ok (.aload_n 0, 1) := by decide +kernel
theorem d_M_bindMethod_17 : decode b_M_bindMethod 17 = .ok (.getfield 41, 3) := by decide +kernel
theorem d_M_bindMethod_20 : decode b_M_bindMethod 20 = .ok (.iload 4, 2) := by decide +kernel
theorem d_M_bindMethod_22 : decode b_M_bindMethod 22 = .ok (.iconst 2, 1) := by decide +kernel
theorem d_M_bindMethod_23 : decode b_M_bindMethod 23 = .ok (.iadd, 1) := by decide +kernel
theorem d_M_bindMethod_24 : decode b_M_bindMethod 24 = .ok (.aload_n 0, 1) := by decide +kernel
theorem d_M_bindMethod_25 : decode b_M_bindMethod 25 = .ok (.getfield 32, 3) := by decide +kernel
theorem d_M_bindMethod_28 : decode b_M_bindMethod 28 = .ok (.iload_n 2, 1) := by decide +kernel
theorem d_M_bindMethod_29 : decode b_M_bindMethod 29 = .ok (.iaload, 1) := by decide +kernel
theorem d_M_bindMethod_30 : decode b_M_bindMethod 30 = .ok (.iastore, 1) := by decide +kernel
theorem d_M_bindMethod_31 : decode b_M_bindMethod 31 = .ok (.aload_n 0, 1) := by decide +kernel
theorem d_M_bindMethod_32 : decode b_M_bindMethod 32 = .ok (.getfield 41, 3) := by decide +kernel
theorem d_M_bindMethod_35 : decode b_M_bindMethod 35 = .ok (.iload 4, 2) := by decide +kernel
theorem d_M_bindMethod_37 : decode b_M_bindMethod 37 = .ok (.bipush 6, 2) := by decide +kernel
theorem d_M_bindMethod_39 : decode b_M_bindMethod 39 = .ok (.iadd, 1) := by decide +kernel
theorem d_M_bindMethod_40 : decode b_M_bindMethod 40 = .ok (.iload_n 2, 1) := by decide +kernel
theorem d_M_bindMethod_41 : decode b_M_bindMethod 41 = .ok (.bipush 12, 2) := by decide +kernel
theorem d_M_bindMethod_43 : decode b_M_bindMethod 43 = .ok (.idiv, 1) := by decide +kernel
theorem d_M_bindMethod_44 : decode b_M_bindMethod 44 = .ok (.bipush 6, 2) := by decide +kernel
theorem d_M_bindMethod_46 : decode b_M_bindMethod 46 = .ok (.irem, 1) := by decide +kernel
theorem d_M_bindMethod_47 : decode b_M_bindMethod 47 = .ok (.iastore, 1) := by decide +kernel
theorem d_M_bindMethod_48 : decode b_M_bindMethod 48 = .ok (.iconst 0, 1) := by decide +kernel
theorem d_M_bindMethod_49 : decode b_M_bindMethod 49 = .ok (.ireturn, 1) := by decide +kernel
theorem d_M_bindCall_0 : decode b_M_bindCall 0 = .ok (.iload 5, 2) := by decide +kernel
theorem d_M_bindCall_2 : decode b_M_bindCall 2 = .ok (.istore 6, 2) := by decide +kernel
theorem d_M_bindCall_4 : decode b_M_bindCall 4 = .ok (.iload 6, 2) := by decide +kernel
theorem d_M_bindCall_6 : decode b_M_bindCall 6 = .ok (.iconst 4, 1) := by decide +kernel
theorem d_M_bindCall_7 : decode b_M_bindCall 7 = .ok (.if_icmp .ge 134, 3) := by decide +kernel
theorem d_M_bindCall_10 : decode b_M_bindCall 10 = .ok (.iload 5, 2) := by decide +kernel
theorem d_M_bindCall_12 : decode b_M_bindCall 12 = .ok (.ifCond .ne 11, 3) := by decide +kernel
theorem d_M_bindCall_15 : decode b_M_bindCall 15 = .ok (.iload 6, 2) := by decide +kernel
theorem d_M_bindCall_17 : decode b_M_bindCall 17 = .ok (.ifCond .le 6, 3) := by decide +kernel
theorem d_M_bindCall_20 : decode b_M_bindCall 20 = .ok (.goto 115, 3) := by decide +kernel
theorem d_M_bindCall_23 : decode b_M_bindCall 23 = .ok (.aload_n 0, 1) := by decide +kernel
theorem d_M_bindCall_24 : decode b_M_bindCall 24 = .ok (.iload_n 1, 1) := by decide +kernel
theorem d_M_bindCall_25 : decode b_M_bindCall 25 = .ok (.iload_n 3, 1) := by decide +kernel
theorem d_M_bindCall_26 : decode b_M_bindCall 26 = .ok (.iload 4, 2) := by decide +kernel
theorem d_M_bindCall_28 : decode b_M_bindCall 28 = .ok (.iload 6, 2) := by decide +kernel
theorem d_M_bindCall_30 : decode b_M_bindCall 30 = .ok (.iconst (-1), 1) := by decide +kernel
theorem d_M_bindCall_31 : decode b_M_bindCall 31 = .ok (.invokevirtual 77, 3) := by decide +kernel
theorem d_M_bindCall_34 : decode b_M_bindCall 34 = .ok (.istore 7, 2) := by decide +kernel
theorem d_M_bindCall_36 : decode b_M_bindCall 36 = .ok (.iload 7, 2) := by decide +kernel
theorem d_M_bindCall_38 : decode b_M_bindCall 38 = .ok (.ifCond .lt 97, 3) := by decide +kernel
theorem d_M_bindCall_41 : decode b_M_bindCall 41 = .ok (.aload_n 0, 1) := by decide +kernel
theorem d_M_bindCall_42 : decode b_M_bindCall 42 = .ok (.getfield 35, 3) := by decide +kernel
theorem d_M_bindCall_45 : decode b_M_bindCall 45 = .ok (.iload 7, 2) := by decide +kernel
theorem d_M_bindCall_47 : decode b_M_bindCall 47 = .ok (.iaload, 1) := by decide +kernel
theorem d_M_bindCall_48 : decode b_M_bindCall 48 = .ok (.bipush 8, 2) := by decide +kernel
theorem d_M_bindCall_50 : decode b_M_bindCall 50 = .ok (.iand, 1) := by decide +kernel
theorem d_M_bindCall_51 : decode b_M_bindCall 51 = .ok (.ifCond .eq 6, 3) := by decide +kernel
theorem d_M_bindCall_54 : decode b_M_bindCall 54 = .ok (.goto 81, 3) := by decide +kernel
theorem d_M_bindCall_57 : decode b_M_bindCall 57 = .ok (.iload_n 2, 1) := by decide +kernel
theorem d_M_bindCall_58 : decode b_M_bindCall 58 = .ok (.iconst 3, 1) := by decide +kernel
theorem d_M_bindCall_59 : decode b_M_bindCall 59 = .ok (.if_icmp .ne 18, 3) := by decide +kernel
theorem d_M_bindCall_62 : decode b_M_bindCall 62 = .ok (.aload_n 0, 1) := by decide +kernel
theorem d_M_bindCall_63 : decode b_M_bindCall 63 = .ok (.getfield 35, 3) := by decide +kernel
theorem d_M_bindCall_66 : decode b_M_bindCall 66 = .ok (.iload 7, 2) := by decide +kernel
theorem d_M_bindCall_68 : decode b_M_bindCall 68 = .ok (.iaload, 1) := by decide +kernel
theorem d_M_bindCall_69 : decode b_M_bindCall 69 = .ok (.iconst 1, 1) := by decide +kernel
theorem d_M_bindCall_70 : decode b_M_bindCall 70 = .ok (.iand, 1) := by decide +kernel
theorem d_M_bindCall_71 : decode b_M_bindCall 71 = .ok (.ifCond .ne 6, 3) := by decide +kernel
theorem d_M_bindCall_74 : decode b_M_bindCall 74 = .ok (.bipush (-5), 2) := by decide +kernel
theorem d_M_bindCall_76 : decode b_M_bindCall 76 = .ok (.ireturn, 1) := by decide +kernel
theorem d_M_bindCall_77 : decode b_M_bindCall 77 = .ok (.aload_n 0, 1) := by decide +kernel
theorem d_M_bindCall_78 : decode b_M_bindCall 78 = .ok (.getfield 41, 3) := by decide +kernel
theorem d_M_bindCall_81 : decode b_M_bindCall 81 = .ok (.bipush 7, 2) := by decide +kernel
theorem d_M_bindCall_83 : decode b_M_bindCall 83 = .ok (.iload_n 1, 1) := by decide +kernel
theorem d_M_bindCall_84 : decode b_M_bindCall 84 = .ok (.imul, 1) := by decide +kernel
theorem d_M_bindCall_85 : decode b_M_bindCall 85 = .ok (.iconst 3, 1) := by decide +kernel
theorem d_M_bindCall_86 : decode b_M_bindCall 86 = .ok (.iadd, 1) := by decide +kernel
theorem d_M_bindCall_87 : decode b_M_bindCall 87 = .ok (.aload_n 0, 1) := by decide +kernel
theorem d_M_bindCall_88 : decode b_M_bindCall 88 = .ok (.getfield 35, 3) := by decide +kernel
theorem d_M_bindCall_91 : decode b_M_bindCall 91 = .ok (.iload 7, 2) := by decide +kernel
theorem d_M_bindCall_93 : decode b_M_bindCall 93 = .ok (.iaload, 1) := by decide +kernel
theorem d_M_bindCall_94 : decode b_M_bindCall 94 = .ok (.iconst 1, 1) := by decide +kernel
theorem d_M_bindCall_95 : decode b_M_bindCall 95 = .ok (.invokestatic 73, 3) := by decide +kernel
theorem d_M_bindCall_98 : decode b_M_bindCall 98 = .ok (.iastore, 1) := by decide +kernel
theorem d_M_bindCall_99 : decode b_M_bindCall 99 = .ok (.aload_n 0, 1) := by decide +kernel
theorem d_M_bindCall_100 : decode b_M_bindCall 100 = .ok (.getfield 41, 3) := by decide +kernel
theorem d_M_bindCall_103 : decode b_M_bindCall 103 = .ok (.bipush 7, 2) := by decide +kernel
theorem d_M_bindCall_105 : decode b_M_bindCall 105 = .ok (.iload_n 1, 1) := by decide +kernel
theorem d_M_bindCall_106 : decode b_M_bindCall 106 = .ok (.imul, 1) := by decide +kernel
theorem d_M_bindCall_107 : decode b_M_bindCall 107 = .ok (.iconst 4, 1) := by decide +kernel
theorem d_M_bindCall_108 : decode b_M_bindCall 108 = .ok (.iadd, 1) := by decide +kernel
theorem d_M_bindCall_109 : decode b_M_bindCall 109 = .ok (.aload_n 0, 1) := by decide +kernel
theorem d_M_bindCall_110 : decode b_M_bindCall 110 = .ok (.getfield 13, 3) := by decide +kernel
theorem d_M_bindCall_113 : decode b_M_bindCall 113 = .ok (.bipush 6, 2) := by decide +kernel
theorem d_M_bindCall_115 : decode b_M_bindCall 115 = .ok (.iload_n 1, 1) := by decide +kernel
theorem d_M_bindCall_116 : decode b_M_bindCall 116 = .ok (.imul, 1) := by decide +kernel
end
section
theorem d_M_bindCall_117 : decode b_M_bindCall 117 = .ok (.iload_n 3, 1) := by decide +kernel
theorem d_M_bindCall_118 : decode b_M_bindCall 118 = .ok (.iadd, 1) := by decide +kernel
theorem d_M_bindCall_119 : decode b_M_bindCall 119 = .ok (.iaload, 1) := by decide +kernel
theorem d_M_bindCall_120 : decode b_M_bindCall 120 = .ok (.iconst 1, 1) := by decide +kernel
theorem d_M_bindCall_121 : decode b_M_bindCall 121 = .ok (.invokestatic 73, 3) := by decide +kernel
theorem d_M_bindCall_124 : decode b_M_bindCall 124 = .ok (.iastore, 1) := by decide +kernel
theorem d_M_bindCall_125 : decode b_M_bindCall 125 = .ok (.aload_n 0, 1) := by decide +kernel
theorem d_M_bindCall_126 : decode b_M_bindCall 126 = .ok (.iload_n 1, 1) := by decide +kernel
theorem d_M_bindCall_127 : decode b_M_bindCall 127 = .ok (.iload 7, 2) := by decide +kernel
theorem d_M_bindCall_129 : decode b_M_bindCall 129 = .ok (.iload 6, 2) := by decide +kernel
theorem d_M_bindCall_131 : decode b_M_bindCall 131 = .ok (.invokevirtual 81, 3) := by decide +kernel
theorem d_M_bindCall_134 : decode b_M_bindCall 134 = .ok (.ireturn, 1) := by decide +kernel
theorem d_M_bindCall_135 : decode b_M_bindCall 135 = .ok (.iinc 6 1, 3) := by decide +kernel
theorem d_M_bindCall_138 : decode b_M_bindCall 138 = .ok (.goto (-134), 3) := by decide +kernel
theorem d_M_bindCall_141 : decode b_M_bindCall 141 = .ok (.bipush (-4), 2) := by decide +kernel
theorem d_M_bindCall_143 : decode b_M_bindCall 143 = .ok (.ireturn, 1) := by decide +kernel
theorem d_M_bindOverride_0 : decode b_M_bindOverride 0 = .ok (.aload_n 0, 1) := by decide +kernel
theorem d_M_bindOverride_1 : decode b_M_bindOverride 1 = .ok (.iload_n 1, 1) := by decide +kernel
theorem d_M_bindOverride_2 : decode b_M_bindOverride 2 = .ok (.iload_n 2, 1) := by decide +kernel
theorem d_M_bindOverride_3 : decode b_M_bindOverride 3 = .ok (.iload_n 3, 1) := by decide +kernel
theorem d_M_bindOverride_4 : decode b_M_bindOverride 4 = .ok (.iload 4, 2) := by decide +kernel
theorem d_M_bindOverride_6 : decode b_M_bindOverride 6 = .ok (.iconst (-1), 1) := by decide +kernel
theorem d_M_bindOverride_7 : decode b_M_bindOverride 7 = .ok (.invokevirtual 77, 3) := by decide +kernel
theorem d_M_bindOverride_10 : decode b_M_bindOverride 10 = .ok (.istore 5, 2) := by decide +kernel
theorem d_M_bindOverride_12 : decode b_M_bindOverride 12 = .ok (.iload 5, 2) := by decide +kernel
theorem d_M_bindOverride_14 : decode b_M_bindOverride 14 = .ok (.ifCond .lt 16, 3) := by decide +kernel
theorem d_M_bindOverride_17 : decode b_M_bindOverride 17 = .ok (.aload_n 0, 1) := by decide +kernel
theorem d_M_bindOverride_18 : decode b_M_bindOverride 18 = .ok (.getfield 35, 3) := by decide +kernel
theorem d_M_bindOverride_21 : decode b_M_bindOverride 21 = .ok (.iload 5, 2) := by decide +kernel
theorem d_M_bindOverride_23 : decode b_M_bindOverride 23 = .ok (.iaload, 1) := by decide +kernel
theorem d_M_bindOverride_24 : decode b_M_bindOverride 24 = .ok (.bipush 8, 2) := by decide +kernel
theorem d_M_bindOverride_26 : decode b_M_bindOverride 26 = .ok (.iand, 1) := by decide +kernel
theorem d_M_bindOverride_27 : decode b_M_bindOverride 27 = .ok (.ifCond .eq 6, 3) := by decide +kernel
theorem d_M_bindOverride_30 : decode b_M_bindOverride 30 = .ok (.bipush (-4), 2) := by decide +kernel
theorem d_M_bindOverride_32 : decode b_M_bindOverride 32 = .ok (.ireturn, 1) := by decide +kernel
theorem d_M_bindOverride_33 : decode b_M_bindOverride 33 = .ok (.aload_n 0, 1) := by decide +kernel
theorem d_M_bindOverride_34 : decode b_M_bindOverride 34 = .ok (.getfield 35, 3) := by decide +kernel
theorem d_M_bindOverride_37 : decode b_M_bindOverride 37 = .ok (.iload 5, 2) := by decide +kernel
theorem d_M_bindOverride_39 : decode b_M_bindOverride 39 = .ok (.iaload, 1) := by decide +kernel
theorem d_M_bindOverride_40 : decode b_M_bindOverride 40 = .ok (.iconst 5, 1) := by decide +kernel
theorem d_M_bindOverride_41 : decode b_M_bindOverride 41 = .ok (.iand, 1) := by decide +kernel
theorem d_M_bindOverride_42 : decode b_M_bindOverride 42 = .ok (.ifCond .eq 8, 3) := by decide +kernel
theorem d_M_bindOverride_45 : decode b_M_bindOverride 45 = .ok (.bipush (-5), 2) := by decide +kernel
theorem d_M_bindOverride_47 : decode b_M_bindOverride 47 = .ok (.goto 12, 3) := by decide +kernel
theorem d_M_bindOverride_50 : decode b_M_bindOverride 50 = .ok (.aload_n 0, 1) := by decide +kernel
theorem d_M_bindOverride_51 : decode b_M_bindOverride 51 = .ok (.iload_n 1, 1) := by decide +kernel
theorem d_M_bindOverride_52 : decode b_M_bindOverride 52 = .ok (.iload 5, 2) := by decide +kernel
theorem d_M_bindOverride_54 : decode b_M_bindOverride 54 = .ok (.iload 4, 2) := by decide +kernel
theorem d_M_bindOverride_56 : decode b_M_bindOverride 56 = .ok (.invokevirtual 81, 3) := by decide +kernel
theorem d_M_bindOverride_59 : decode b_M_bindOverride 59 = .ok (.ireturn, 1) := by decide +kernel
theorem d_M_bind_0 : decode b_M_bind 0 = .ok (.aload_n 0, 1) := by decide +kernel
theorem d_M_bind_1 : decode b_M_bind 1 = .ok (.getfield 38, 3) := by decide +kernel
theorem d_M_bind_4 : decode b_M_bind 4 = .ok (.iconst 4, 1) := by decide +kernel
theorem d_M_bind_5 : decode b_M_bind 5 = .ok (.iload_n 1, 1) := by decide +kernel
theorem d_M_bind_6 : decode b_M_bind 6 = .ok (.imul, 1) := by decide +kernel
theorem d_M_bind_7 : decode b_M_bind 7 = .ok (.iaload, 1) := by decide +kernel
theorem d_M_bind_8 : decode b_M_bind 8 = .ok (.istore_n 3, 1) := by decide +kernel
theorem d_M_bind_9 : decode b_M_bind 9 = .ok (.aload_n 0, 1) := by decide +kernel
theorem d_M_bind_10 : decode b_M_bind 10 = .ok (.getfield 38, 3) := by decide +kernel
theorem d_M_bind_13 : decode b_M_bind 13 = .ok (.iconst 4, 1) := by decide +kernel
theorem d_M_bind_14 : decode b_M_bind 14 = .ok (.iload_n 1, 1) := by decide +kernel
theorem d_M_bind_15 : decode b_M_bind 15 = .ok (.imul, 1) := by decide +kernel
theorem d_M_bind_16 : decode b_M_bind 16 = .ok (.iconst 1, 1) := by decide +kernel
theorem d_M_bind_17 : decode b_M_bind 17 = .ok (.iadd, 1) := by decide +kernel
theorem d_M_bind_18 : decode b_M_bind 18 = .ok (.iaload, 1) := by decide +kernel
theorem d_M_bind_19 : decode b_M_bind 19 = .ok (.istore 4, 2) := by decide +kernel
theorem d_M_bind_21 : decode b_M_bind 21 = .ok (.aload_n 0, 1) := by decide +kernel
theorem d_M_bind_22 : decode b_M_bind 22 = .ok (.getfield 38, 3) := by decide +kernel
theorem d_M_bind_25 : decode b_M_bind 25 = .ok (.iconst 4, 1) := by decide +kernel
theorem d_M_bind_26 : decode b_M_bind 26 = .ok (.iload_n 1, 1) := by decide +kernel
theorem d_M_bind_27 : decode b_M_bind 27 = .ok (.imul, 1) := by decide +kernel
theorem d_M_bind_28 : decode b_M_bind 28 = .ok (.iconst 2, 1) := by decide +kernel
theorem d_M_bind_29 : decode b_M_bind 29 = .ok (.iadd, 1) := by decide +kernel
theorem d_M_bind_30 : decode b_M_bind 30 = .ok (.iaload, 1) := by decide +kernel
theorem d_M_bind_31 : decode b_M_bind 31 = .ok (.istore 5, 2) := by decide +kernel
theorem d_M_bind_33 : decode b_M_bind 33 = .ok (.bipush 6, 2) := by decide +kernel
theorem d_M_bind_35 : decode b_M_bind 35 = .ok (.iload_n 2, 1) := by decide +kernel
theorem d_M_bind_36 : decode b_M_bind 36 = .ok (.imul, 1) := by decide +kernel
theorem d_M_bind_37 : decode b_M_bind 37 = .ok (.iload 4, 2) := by decide +kernel
theorem d_M_bind_39 : decode b_M_bind 39 = .ok (.iadd, 1) := by decide +kernel
theorem d_M_bind_40 : decode b_M_bind 40 = .ok (.istore 6, 2) := by decide +kernel
theorem d_M_bind_42 : decode b_M_bind 42 = .ok (.bipush 7, 2) := by decide +kernel
theorem d_M_bind_44 : decode b_M_bind 44 = .ok (.iload_n 2, 1) := by decide +kernel
theorem d_M_bind_45 : decode b_M_bind 45 = .ok (.imul, 1) := by decide +kernel
theorem d_M_bind_46 : decode b_M_bind 46 = .ok (.istore 7, 2) := by decide +kernel
theorem d_M_bind_48 : decode b_M_bind 48 = .ok (.iload 7, 2) := by decide +kernel
theorem d_M_bind_50 : decode b_M_bind 50 = .ok (.bipush 7, 2) := by decide +kernel
theorem d_M_bind_52 : decode b_M_bind 52 = .ok (.iload_n 2, 1) := by decide +kernel
theorem d_M_bind_53 : decode b_M_bind 53 = .ok (.imul, 1) := by decide +kernel
theorem d_M_bind_54 : decode b_M_bind 54 = .ok (.bipush 7, 2) := by decide +kernel
theorem d_M_bind_56 : decode b_M_bind 56 = .ok (.iadd, 1) := by decide +kernel
theorem d_M_bind_57 : decode b_M_bind 57 = .ok (.if_icmp .ge 17, 3) := by decide +kernel
theorem d_M_bind_60 : decode b_M_bind 60 = .ok (.aload_n 0, 1) := by decide +kernel
theorem d_M_bind_61 : decode b_M_bind 61 = .ok (.getfield 41, 3) := by decide +kernel
theorem d_M_bind_64 : decode b_M_bind 64 = .ok (.iload 7, 2) := by decide +kernel
theorem d_M_bind_66 : decode b_M_bind 66 = .ok (.iconst 0, 1) := by decide +kernel
theorem d_M_bind_67 : decode b_M_bind 67 = .ok (.iastore, 1) := by decide +kernel
theorem d_M_bind_68 : decode b_M_bind 68 = .ok (.iinc 7 1, 3) := by decide +kernel
theorem d_M_bind_71 : decode b_M_bind 71 = .ok (.goto (-23), 3) := by decide +kernel
theorem d_M_bind_74 : decode b_M_bind 74 = .ok (.aload_n 0, 1) := by decide +kernel
theorem d_M_bind_75 : decode b_M_bind 75 = .ok (.getfield 7, 3) := by decide +kernel
theorem d_M_bind_78 : decode b_M_bind 78 = .ok (.iload 6, 2) := by decide +kernel
theorem d_M_bind_80 : decode b_M_bind 80 = .ok (.baload, 1) := by decide +kernel
theorem d_M_bind_81 : decode b_M_bind 81 = .ok (.ifCond .eq 16, 3) := by decide +kernel
theorem d_M_bind_84 : decode b_M_bind 84 = .ok (.aload_n 0, 1) := by decide +kernel
theorem d_M_bind_85 : decode b_M_bind 85 = .ok (.getfield 13, 3) := by decide +kernel
theorem d_M_bind_88 : decode b_M_bind 88 = .ok (.iload 6, 2) := by decide +kernel
theorem d_M_bind_90 : decode b_M_bind 90 = .ok (.iaload, 1) := by decide +kernel
theorem d_M_bind_91 : decode b_M_bind 91 = .ok (.bipush 8, 2) := by decide +kernel
theorem d_M_bind_93 : decode b_M_bind 93 = .ok (.iand, 1) := by decide +kernel
theorem d_M_bind_94 : decode b_M_bind 94 = .ok (.ifCond .eq 6, 3) := by decide +kernel
theorem d_M_bind_97 : decode b_M_bind 97 = .ok (.bipush (-3), 2) := by decide +kernel
theorem d_M_bind_99 : decode b_M_bind 99 = .ok (.ireturn, 1) := by decide +kernel
theorem d_M_bind_100 : decode b_M_bind 100 = .ok (.iload_n 3, 1) := by decide +kernel
theorem d_M_bind_101 : decode b_M_bind 101 = .ok (.iconst 2, 1) := by decide +kernel
theorem d_M_bind_102 : decode b_M_bind 102 = .ok (.if_icmp .ge 14, 3) := by decide +kernel
theorem d_M_bind_105 : decode b_M_bind 105 = .ok (.aload_n 0, 1) := by decide +kernel
theorem d_M_bind_106 : decode b_M_bind 106 = .ok (.iload_n 2, 1) := by decide +kernel
theorem d_M_bind_107 : decode b_M_bind 107 = .ok (.iload_n 3, 1) := by decide +kernel
theorem d_M_bind_108 : decode b_M_bind 108 = .ok (.iload 4, 2) := by decide +kernel
theorem d_M_bind_110 : decode b_M_bind 110 = .ok (.iload 5, 2) := by decide +kernel
theorem d_M_bind_112 : decode b_M_bind 112 = .ok (.invokevirtual 85, 3) := by decide +kernel
theorem d_M_bind_115 : decode b_M_bind 115 = .ok (.ireturn, 1) := by decide +kernel
theorem d_M_bind_116 : decode b_M_bind 116 = .ok (.iload_n 3, 1) := by decide +kernel
theorem d_M_bind_117 : decode b_M_bind 117 = .ok (.iconst 4, 1) := by decide +kernel
theorem d_M_bind_118 : decode b_M_bind 118 = .ok (.if_icmp .ge 24, 3) := by decide +kernel
theorem d_M_bind_121 : decode b_M_bind 121 = .ok (.aload_n 0, 1) := by decide +kernel
theorem d_M_bind_122 : decode b_M_bind 122 = .ok (.iload_n 2, 1) := by decide +kernel
theorem d_M_bind_123 : decode b_M_bind 123 = .ok (.iload_n 3, 1) := by decide +kernel
theorem d_M_bind_124 : decode b_M_bind 124 = .ok (.iload 4, 2) := by decide +kernel
theorem d_M_bind_126 : decode b_M_bind 126 = .ok (.iload 5, 2) := by decide +kernel
theorem d_M_bind_128 : decode b_M_bind 128 = .ok (.aload_n 0, 1) := by decide +kernel
theorem d_M_bind_129 : decode b_M_bind 129 = .ok (.getfield 38, 3) := by decide +kernel
theorem d_M_bind_132 : decode b_M_bind 132 = .ok (.iconst 4, 1) := by decide +kernel
theorem d_M_bind_133 : decode b_M_bind 133 = .ok (.iload_n 1, 1) := by decide +kernel
theorem d_M_bind_134 : decode b_M_bind 134 = .ok (.imul, 1) := by decide +kernel
theorem d_M_bind_135 : decode b_M_bind 135 = .ok (.iconst 3, 1) := by decide +kernel
theorem d_M_bind_136 : decode b_M_bind 136 = .ok (.iadd, 1) := by decide +kernel
theorem d_M_bind_137 : decode b_M_bind 137 = .ok (.iaload, 1) := by decide +kernel
theorem d_M_bind_138 : decode b_M_bind 138 = .ok (.invokevirtual 88, 3) := by decide +kernel
theorem d_M_bind_141 : decode b_M_bind 141 = .ok (.ireturn, 1) := by decide +kernel
theorem d_M_bind_142 : decode b_M_bind 142 = .ok (.iload_n 3, 1) := by decide +kernel
theorem d_M_bind_143 : decode b_M_bind 143 = .ok (.iconst 4, 1) := by decide +kernel
theorem d_M_bind_144 : decode b_M_bind 144 = .ok (.if_icmp .ne 22, 3) := by decide +kernel
theorem d_M_bind_147 : decode b_M_bind 147 = .ok (.aload_n 0, 1) := by decide +kernel
theorem d_M_bind_148 : decode b_M_bind 148 = .ok (.getfield 13, 3) := by decide +kernel
theorem d_M_bind_151 : decode b_M_bind 151 = .ok (.iload 6, 2) := by decide +kernel
theorem d_M_bind_153 : decode b_M_bind 153 = .ok (.iaload, 1) := by decide +kernel
theorem d_M_bind_154 : decode b_M_bind 154 = .ok (.iconst 3, 1) := by decide +kernel
theorem d_M_bind_155 : decode b_M_bind 155 = .ok (.iand, 1) := by decide +kernel
theorem d_M_bind_156 : decode b_M_bind 156 = .ok (.ifCond .eq 8, 3) := by decide +kernel
theorem d_M_bind_159 : decode b_M_bind 159 = .ok (.bipush (-5), 2) := by decide +kernel
theorem d_M_bind_161 : decode b_M_bind 161 = .ok (.goto 4, 3) := by decide +kernel
theorem d_M_bind_164 : decode b_M_bind 164 = .ok (.iconst 0, 1) := by decide +kernel
theorem d_M_bind_165 : decode b_M_bind 165 = .ok (.ireturn, 1) := by decide +kernel
theorem d_M_bind_166 : decode b_M_bind 166 = .ok (.aload_n 0, 1) := by decide +kernel
theorem d_M_bind_167 : decode b_M_bind 167 = .ok (.getfield 13, 3) := by decide +kernel
theorem d_M_bind_170 : decode b_M_bind 170 = .ok (.iload 6, 2) := by decide +kernel
theorem d_M_bind_172 : decode b_M_bind 172 = .ok (.iaload, 1) := by decide +kernel
theorem d_M_bind_173 : decode b_M_bind 173 = .ok (.iconst 4, 1) := by decide +kernel
theorem d_M_bind_174 : decode b_M_bind 174 = .ok (.iand, 1) := by decide +kernel
theorem d_M_bind_175 : decode b_M_bind 175 = .ok (.ifCond .eq 6, 3) := by decide +kernel
theorem d_M_bind_178 : decode b_M_bind 178 = .ok (.bipush (-5), 2) := by decide +kernel
theorem d_M_bind_180 : decode b_M_bind 180 = .ok (.ireturn, 1) := by decide +kernel
theorem d_M_bind_181 : decode b_M_bind 181 = .ok (.iload_n 3, 1) := by decide +kernel
theorem d_M_bind_182 : decode b_M_bind 182 = .ok (.iconst 5, 1) := by decide +kernel
theorem d_M_bind_183 : decode b_M_bind 183 = .ok (.if_icmp .ne 25, 3) := by decide +kernel
theorem d_M_bind_186 : decode b_M_bind 186 = .ok (.aload_n 0, 1) := by decide +kernel
theorem d_M_bind_187 : decode b_M_bind 187 = .ok (.getfield 41, 3) := by decide +kernel
theorem d_M_bind_190 : decode b_M_bind 190 = .ok (.bipush 7, 2) := by decide +kernel
theorem d_M_bind_192 : decode b_M_bind 192 = .ok (.iload_n 2, 1) := by decide +kernel
theorem d_M_bind_193 : decode b_M_bind 193 = .ok (.imul, 1) := by decide +kernel
theorem d_M_bind_194 : decode b_M_bind 194 = .ok (.iconst 4, 1) := by decide +kernel
theorem d_M_bind_195 : decode b_M_bind 195 = .ok (.iadd, 1) := by decide +kernel
theorem d_M_bind_196 : decode b_M_bind 196 = .ok (.aload_n 0, 1) := by decide +kernel
theorem d_M_bind_197 : decode b_M_bind 197 = .ok (.getfield 13, 3) := by decide +kernel
theorem d_M_bind_200 : decode b_M_bind 200 = .ok (.iload 6, 2) := by decide +kernel
theorem d_M_bind_202 : decode b_M_bind 202 = .ok (.iaload, 1) := by decide +kernel
theorem d_M_bind_203 : decode b_M_bind 203 = .ok (.iconst 1, 1) := by decide +kernel
theorem d_M_bind_204 : decode b_M_bind 204 = .ok (.invokestatic 73, 3) := by decide +kernel
theorem d_M_bind_207 : decode b_M_bind 207 = .ok (.iastore, 1) := by decide +kernel
theorem d_M_bind_208 : decode b_M_bind 208 = .ok (.iload_n 3, 1) := by decide +kernel
theorem d_M_bind_209 : decode b_M_bind 209 = .ok (.iconst 5, 1) := by decide +kernel
theorem d_M_bind_210 : decode b_M_bind 210 = .ok (.if_icmp .ne 7, 3) := by decide +kernel
theorem d_M_bind_213 : decode b_M_bind 213 = .ok (.iconst 0, 1) := by decide +kernel
theorem d_M_bind_214 : decode b_M_bind 214 = .ok (.goto 22, 3) := by decide +kernel
theorem d_M_bind_217 : decode b_M_bind 217 = .ok (.aload_n 0, 1) := by decide +kernel
theorem d_M_bind_218 : decode b_M_bind 218 = .ok (.iload_n 2, 1) := by decide +kernel
theorem d_M_bind_219 : decode b_M_bind 219 = .ok (.iload 4, 2) := by decide +kernel
theorem d_M_bind_221 : decode b_M_bind 221 = .ok (.iload 5, 2) := by decide +kernel
theorem d_M_bind_223 : decode b_M_bind 223 = .ok (.aload_n 0, 1) := by decide +kernel
theorem d_M_bind_224 : decode b_M_bind 224 = .ok (.getfield 38, 3) := by decide +kernel
theorem d_M_bind_227 : decode b_M_bind 227 = .ok (.iconst 4, 1) := by decide +kernel
theorem d_M_bind_228 : decode b_M_bind 228 = .ok (.iload_n 1, 1) := by decide +kernel
theorem d_M_bind_229 : decode b_M_bind 229 = .ok (.imul, 1) := by decide +kernel
theorem d_M_bind_230 : decode b_M_bind 230 = .ok (.iconst 3, 1) := by decide +kernel
theorem d_M_bind_231 : decode b_M_bind 231 = .ok (.iadd, 1) := by decide +kernel
theorem d_M_bind_232 : decode b_M_bind 232 = .ok (.iaload, 1) := by decide +kernel
theorem d_M_bind_233 : decode b_M_bind 233 = .ok (.invokevirtual 91, 3) := by decide +kernel
theorem d_M_bind_236 : decode b_M_bind 236 = .ok (.ireturn, 1) := by decide +kernel
theorem d_M_compile_0 : decode b_M_compile 0 = .ok (.iload_n 1, 1) := by decide +kernel
theorem d_M_compile_1 : decode b_M_compile 1 = .ok (.iconst 0, 1) := by decide +kernel
theorem d_M_compile_2 : decode b_M_compile 2 = .ok (.aload_n 0, 1) := by decide +kernel
theorem d_M_compile_3 : decode b_M_compile 3 = .ok (.getfield 59, 3) := by decide +kernel
theorem d_M_compile_6 : decode b_M_compile 6 = .ok (.iconst 1, 1) := by decide +kernel
theorem d_M_compile_7 : decode b_M_compile 7 = .ok (.isub, 1) := by decide +kernel
theorem d_M_compile_8 : decode b_M_compile 8 = .ok (.invokestatic 47, 3) := by decide +kernel
theorem d_M_compile_11 : decode b_M_compile 11 = .ok (.ifCond .eq 21, 3) := by decide +kernel
theorem d_M_compile_14 : decode b_M_compile 14 = .ok (.iload_n 2, 1) := by decide +kernel
theorem d_M_compile_15 : decode b_M_compile 15 = .ok (.iconst 0, 1) := by decide +kernel
theorem d_M_compile_16 : decode b_M_compile 16 = .ok (.iconst 1, 1) := by decide +kernel
theorem d_M_compile_17 : decode b_M_compile 17 = .ok (.invokestatic 47, 3) := by decide +kernel
theorem d_M_compile_20 : decode b_M_compile 20 = .ok (.ifCond .eq 12, 3) := by decide +kernel
theorem d_M_compile_23 : decode b_M_compile 23 = .ok (.aload_n 0, 1) := by decide +kernel
theorem d_M_compile_24 : decode b_M_compile 24 = .ok (.iload_n 1, 1) := by decide +kernel
theorem d_M_compile_25 : decode b_M_compile 25 = .ok (.iload_n 2, 1) := by decide +kernel
theorem d_M_compile_26 : decode b_M_compile 26 = .ok (.invokevirtual 94, 3) := by decide +kernel
theorem d_M_compile_29 : decode b_M_compile 29 = .ok (.goto 4, 3) := by decide +kernel
theorem d_M_compile_32 : decode b_M_compile 32 = .ok (.iconst (-1), 1) := by decide +kernel
theorem d_M_compile_33 : decode b_M_compile 33 = .ok (.ireturn, 1) := by decide +kernel
theorem d_M_linkValue_0 : decode b_M_linkValue 0 = .ok (.aload_n 0, 1) := by decide +kernel
theorem d_M_linkValue_1 : decode b_M_linkValue 1 = .ok (.getfield 7, 3) := by decide +kernel
theorem d_M_linkValue_4 : decode b_M_linkValue 4 = .ok (.bipush 6, 2) := by decide +kernel
theorem d_M_linkValue_6 : decode b_M_linkValue 6 = .ok (.iload_n 1, 1) := by decide +kernel
theorem d_M_linkValue_7 : decode b_M_linkValue 7 = .ok (.iadd, 1) := by decide +kernel
theorem d_M_linkValue_8 : decode b_M_linkValue 8 = .ok (.baload, 1) := by decide +kernel
theorem d_M_linkValue_9 : decode b_M_linkValue 9 = .ok (.ifCond .eq 14, 3) := by decide +kernel
theorem d_M_linkValue_12 : decode b_M_linkValue 12 = .ok (.aload_n 0, 1) := by decide +kernel
theorem d_M_linkValue_13 : decode b_M_linkValue 13 = .ok (.iconst 1, 1) := by decide +kernel
theorem d_M_linkValue_14 : decode b_M_linkValue 14 = .ok (.iload_n 1, 1) := by decide +kernel
theorem d_M_linkValue_15 : decode b_M_linkValue 15 = .ok (.iload_n 2, 1) := by decide +kernel
theorem d_M_linkValue_16 : decode b_M_linkValue 16 = .ok (.iconst (-1), 1) := by decide +kernel
theorem d_M_linkValue_17 : decode b_M_linkValue 17 = .ok (.invokevirtual 69, 3) := by decide +kernel
theorem d_M_linkValue_20 : decode b_M_linkValue 20 = .ok (.goto 4, 3) := by decide +kernel
theorem d_M_linkValue_23 : decode b_M_linkValue 23 = .ok (.iconst (-1), 1) := by decide +kernel
theorem d_M_linkValue_24 : decode b_M_linkValue 24 = .ok (.istore_n 3, 1) := by decide +kernel
theorem d_M_linkValue_25 : decode b_M_linkValue 25 = .ok (.iload_n 3, 1) := by decide +kernel
theorem d_M_linkValue_26 : decode b_M_linkValue 26 = .ok (.ifCond .lt 49, 3) := by decide +kernel
theorem d_M_linkValue_29 : decode b_M_linkValue 29 = .ok (.aload_n 0, 1) := by decide +kernel
theorem d_M_linkValue_30 : decode b_M_linkValue 30 = .ok (.getfield 26, 3) := by decide +kernel
theorem d_M_linkValue_33 : decode b_M_linkValue 33 = .ok (.iload_n 3, 1) := by decide +kernel
theorem d_M_linkValue_34 : decode b_M_linkValue 34 = .ok (.iaload, 1) := by decide +kernel
theorem d_M_linkValue_35 : decode b_M_linkValue 35 = .ok (.bipush 16, 2) := by decide +kernel
theorem d_M_linkValue_37 : decode b_M_linkValue 37 = .ok (.iand, 1) := by decide +kernel
theorem d_M_linkValue_38 : decode b_M_linkValue 38 = .ok (.ifCond .eq 37, 3) := by decide +kernel
theorem d_M_linkValue_41 : decode b_M_linkValue 41 = .ok (.aload_n 0, 1) := by decide +kernel
theorem d_M_linkValue_42 : decode b_M_linkValue 42 = .ok (.getfield 23, 3) := by decide +kernel
theorem d_M_linkValue_45 : decode b_M_linkValue 45 = .ok (.iload_n 3, 1) := by decide +kernel
theorem d_M_linkValue_46 : decode b_M_linkValue 46 = .ok (.iaload, 1) := by decide +kernel
theorem d_M_linkValue_47 : decode b_M_linkValue 47 = .ok (.aload_n 0, 1) := by decide +kernel
theorem d_M_linkValue_48 : decode b_M_linkValue 48 = .ok (.getfield 41, 3) := by decide +kernel
theorem d_M_linkValue_51 : decode b_M_linkValue 51 = .ok (.iconst 1, 1) := by decide +kernel
theorem d_M_linkValue_52 : decode b_M_linkValue 52 = .ok (.iaload, 1) := by decide +kernel
theorem d_M_linkValue_53 : decode b_M_linkValue 53 = .ok (.if_icmp .ne 22, 3) := by decide +kernel
theorem d_M_linkValue_56 : decode b_M_linkValue 56 = .ok (.aload_n 0, 1) := by decide +kernel
theorem d_M_linkValue_57 : decode b_M_linkValue 57 = .ok (.getfield 29, 3) := by decide +kernel
theorem d_M_linkValue_60 : decode b_M_linkValue 60 = .ok (.iload_n 3, 1) := by decide +kernel
theorem d_M_linkValue_61 : decode b_M_linkValue 61 = .ok (.iaload, 1) := by decide +kernel
theorem d_M_linkValue_62 : decode b_M_linkValue 62 = .ok (.aload_n 0, 1) := by decide +kernel
theorem d_M_linkValue_63 : decode b_M_linkValue 63 = .ok (.getfield 41, 3) := by decide +kernel
theorem d_M_linkValue_66 : decode b_M_linkValue 66 = .ok (.iconst 5, 1) := by decide +kernel
theorem d_M_linkValue_67 : decode b_M_linkValue 67 = .ok (.iaload, 1) := by decide +kernel
theorem d_M_linkValue_68 : decode b_M_linkValue 68 = .ok (.if_icmp .ne 7, 3) := by decide +kernel
theorem d_M_linkValue_71 : decode b_M_linkValue 71 = .ok (.iconst 1, 1) := by decide +kernel
theorem d_M_linkValue_72 : decode b_M_linkValue 72 = .ok (.goto 4, 3) := by decide +kernel
theorem d_M_linkValue_75 : decode b_M_linkValue 75 = .ok (.iconst 0, 1) := by decide +kernel
theorem d_M_linkValue_76 : decode b_M_linkValue 76 = .ok (.istore 4, 2) := by decide +kernel
theorem d_M_linkValue_78 : decode b_M_linkValue 78 = .ok (.iload 4, 2) := by decide +kernel
theorem d_M_linkValue_80 : decode b_M_linkValue 80 = .ok (.ifCond .eq 7, 3) := by decide +kernel
theorem d_M_linkValue_83 : decode b_M_linkValue 83 = .ok (.iconst 0, 1) := by decide +kernel
theorem d_M_linkValue_84 : decode b_M_linkValue 84 = .ok (.goto 4, 3) := by decide +kernel
theorem d_M_linkValue_87 : decode b_M_linkValue 87 = .ok (.iconst 2, 1) := by decide +kernel
theorem d_M_linkValue_88 : decode b_M_linkValue 88 = .ok (.ireturn, 1) := by decide +kernel
theorem d_M_linkField_0 : decode b_M_linkField 0 = .ok (.aload_n 0, 1) := by decide +kernel
theorem d_M_linkField_1 : decode b_M_linkField 1 = .ok (.iconst 1, 1) := by decide +kernel
theorem d_M_linkField_2 : decode b_M_linkField 2 = .ok (.iload_n 2, 1) := by decide +kernel
theorem d_M_linkField_3 : decode b_M_linkField 3 = .ok (.iload_n 3, 1) := by decide +kernel
theorem d_M_linkField_4 : decode b_M_linkField 4 = .ok (.aload_n 0, 1) := by decide +kernel
theorem d_M_linkField_5 : decode b_M_linkField 5 = .ok (.getfield 41, 3) := by decide +kernel
theorem d_M_linkField_8 : decode b_M_linkField 8 = .ok (.iconst 1, 1) := by decide +kernel
theorem d_M_linkField_9 : decode b_M_linkField 9 = .ok (.iaload, 1) := by decide +kernel
theorem d_M_linkField_10 : decode b_M_linkField 10 = .ok (.invokevirtual 69, 3) := by decide +kernel
theorem d_M_linkField_13 : decode b_M_linkField 13 = .ok (.istore 4, 2) := by decide +kernel
theorem d_M_linkField_15 : decode b_M_linkField 15 = .ok (.iload 4, 2) := by decide +kernel
theorem d_M_linkField_17 : decode b_M_linkField 17 = .ok (.ifCond .ge 6, 3) := by decide +kernel
theorem d_M_linkField_20 : decode b_M_linkField 20 = .ok (.bipush (-7), 2) := by decide +kernel
theorem d_M_linkField_22 : decode b_M_linkField 22 = .ok (.ireturn, 1) := by decide +kernel
theorem d_M_linkField_23 : decode b_M_linkField 23 = .ok (.aload_n 0, 1) := by decide +kernel
theorem d_M_linkField_24 : decode b_M_linkField 24 = .ok (.getfield 26, 3) := by decide +kernel
theorem d_M_linkField_27 : decode b_M_linkField 27 = .ok (.iload 4, 2) := by decide +kernel
theorem d_M_linkField_29 : decode b_M_linkField 29 = .ok (.iaload, 1) := by decide +kernel
theorem d_M_linkField_30 : decode b_M_linkField 30 = .ok (.bipush 8, 2) := by decide +kernel
theorem d_M_linkField_32 : decode b_M_linkField 32 = .ok (.iand, 1) := by decide +kernel
theorem d_M_linkField_33 : decode b_M_linkField 33 = .ok (.ifCond .ne 20, 3) := by decide +kernel
theorem d_M_linkField_36 : decode b_M_linkField 36 = .ok (.iload_n 1, 1) := by decide +kernel
theorem d_M_linkField_37 : decode b_M_linkField 37 = .ok (.iconst 1, 1) := by decide +kernel
theorem d_M_linkField_38 : decode b_M_linkField 38 = .ok (.if_icmp .ne 18, 3) := by decide +kernel
theorem d_M_linkField_41 : decode b_M_linkField 41 = .ok (.aload_n 0, 1) := by decide +kernel
theorem d_M_linkField_42 : decode b_M_linkField 42 = .ok (.getfield 26, 3) := by decide +kernel
theorem d_M_linkField_45 : decode b_M_linkField 45 = .ok (.iload 4, 2) := by decide +kernel
theorem d_M_linkField_47 : decode b_M_linkField 47 = .ok (.iaload, 1) := by decide +kernel
theorem d_M_linkField_48 : decode b_M_linkField 48 = .ok (.iconst 4, 1) := by decide +kernel
theorem d_M_linkField_49 : decode b_M_linkField 49 = .ok (.iand, 1) := by decide +kernel
theorem d_M_linkField_50 : decode b_M_linkField 50 = .ok (.ifCond .eq 6, 3) := by decide +kernel
theorem d_M_linkField_53 : decode b_M_linkField 53 = .ok (.bipush (-8), 2) := by decide +kernel
theorem d_M_linkField_55 : decode b_M_linkField 55 = .ok (.ireturn, 1) := by decide +kernel
theorem d_M_linkField_56 : decode b_M_linkField 56 = .ok (.aload_n 0, 1) := by decide +kernel
theorem d_M_linkField_57 : decode b_M_linkField 57 = .ok (.getfield 26, 3) := by decide +kernel
theorem d_M_linkField_60 : decode b_M_linkField 60 = .ok (.iload 4, 2) := by decide +kernel
theorem d_M_linkField_62 : decode b_M_linkField 62 = .ok (.iaload, 1) := by decide +kernel
theorem d_M_linkField_63 : decode b_M_linkField 63 = .ok (.iconst 1, 1) := by decide +kernel
theorem d_M_linkField_64 : decode b_M_linkField 64 = .ok (.invokestatic 73, 3) := by decide +kernel
theorem d_M_linkField_67 : decode b_M_linkField 67 = .ok (.aload_n 0, 1) := by decide +kernel
theorem d_M_linkField_68 : decode b_M_linkField 68 = .ok (.getfield 41, 3) := by decide +kernel
theorem d_M_linkField_71 : decode b_M_linkField 71 = .ok (.iconst 3, 1) := by decide +kernel
theorem d_M_linkField_72 : decode b_M_linkField 72 = .ok (.iaload, 1) := by decide +kernel
theorem d_M_linkField_73 : decode b_M_linkField 73 = .ok (.if_icmp .ne 7, 3) := by decide +kernel
theorem d_M_linkField_76 : decode b_M_linkField 76 = .ok (.iconst 0, 1) := by decide +kernel
theorem d_M_linkField_77 : decode b_M_linkField 77 = .ok (.goto 5, 3) := by decide +kernel
theorem d_M_linkField_80 : decode b_M_linkField 80 = .ok (.bipush (-9), 2) := by decide +kernel
theorem d_M_linkField_82 : decode b_M_linkField 82 = .ok (.ireturn, 1) := by decide +kernel
theorem d_M_linkCall_0 : decode b_M_linkCall 0 = .ok (.aload_n 0, 1) := by decide +kernel
theorem d_M_linkCall_1 : decode b_M_linkCall 1 = .ok (.getfield 13, 3) := by decide +kernel
theorem d_M_linkCall_4 : decode b_M_linkCall 4 = .ok (.bipush 6, 2) := by decide +kernel
theorem d_M_linkCall_6 : decode b_M_linkCall 6 = .ok (.iload_n 1, 1) := by decide +kernel
theorem d_M_linkCall_7 : decode b_M_linkCall 7 = .ok (.iadd, 1) := by decide +kernel
theorem d_M_linkCall_8 : decode b_M_linkCall 8 = .ok (.iaload, 1) := by decide +kernel
theorem d_M_linkCall_9 : decode b_M_linkCall 9 = .ok (.iconst 1, 1) := by decide +kernel
theorem d_M_linkCall_10 : decode b_M_linkCall 10 = .ok (.invokestatic 73, 3) := by decide +kernel
theorem d_M_linkCall_13 : decode b_M_linkCall 13 = .ok (.aload_n 0, 1) := by decide +kernel
theorem d_M_linkCall_14 : decode b_M_linkCall 14 = .ok (.getfield 41, 3) := by decide +kernel
theorem d_M_linkCall_17 : decode b_M_linkCall 17 = .ok (.iconst 4, 1) := by decide +kernel
theorem d_M_linkCall_18 : decode b_M_linkCall 18 = .ok (.iaload, 1) := by decide +kernel
theorem d_M_linkCall_19 : decode b_M_linkCall 19 = .ok (.if_icmp .eq 6, 3) := by decide +kernel
theorem d_M_linkCall_22 : decode b_M_linkCall 22 = .ok (.bipush (-9), 2) := by decide +kernel
theorem d_M_linkCall_24 : decode b_M_linkCall 24 = .ok (.ireturn, 1) := by decide +kernel
theorem d_M_linkCall_25 : decode b_M_linkCall 25 = .ok (.aload_n 0, 1) := by decide +kernel
theorem d_M_linkCall_26 : decode b_M_linkCall 26 = .ok (.iconst 1, 1) := by decide +kernel
theorem d_M_linkCall_27 : decode b_M_linkCall 27 = .ok (.iload_n 1, 1) := by decide +kernel
theorem d_M_linkCall_28 : decode b_M_linkCall 28 = .ok (.iload_n 2, 1) := by decide +kernel
theorem d_M_linkCall_29 : decode b_M_linkCall 29 = .ok (.aload_n 0, 1) := by decide +kernel
theorem d_M_linkCall_30 : decode b_M_linkCall 30 = .ok (.getfield 41, 3) := by decide +kernel
theorem d_M_linkCall_33 : decode b_M_linkCall 33 = .ok (.iconst 1, 1) := by decide +kernel
theorem d_M_linkCall_34 : decode b_M_linkCall 34 = .ok (.iaload, 1) := by decide +kernel
theorem d_M_linkCall_35 : decode b_M_linkCall 35 = .ok (.aload_n 0, 1) := by decide +kernel
theorem d_M_linkCall_36 : decode b_M_linkCall 36 = .ok (.getfield 41, 3) := by decide +kernel
theorem d_M_linkCall_39 : decode b_M_linkCall 39 = .ok (.iconst 2, 1) := by decide +kernel
theorem d_M_linkCall_40 : decode b_M_linkCall 40 = .ok (.iaload, 1) := by decide +kernel
theorem d_M_linkCall_41 : decode b_M_linkCall 41 = .ok (.invokevirtual 77, 3) := by decide +kernel
theorem d_M_linkCall_44 : decode b_M_linkCall 44 = .ok (.istore_n 3, 1) := by decide +kernel
theorem d_M_linkCall_45 : decode b_M_linkCall 45 = .ok (.iload_n 3, 1) := by decide +kernel
theorem d_M_linkCall_46 : decode b_M_linkCall 46 = .ok (.ifCond .ge 6, 3) := by decide +kernel
theorem d_M_linkCall_49 : decode b_M_linkCall 49 = .ok (.bipush (-7), 2) := by decide +kernel
theorem d_M_linkCall_51 : decode b_M_linkCall 51 = .ok (.ireturn, 1) := by decide +kernel
theorem d_M_linkCall_52 : decode b_M_linkCall 52 = .ok (.aload_n 0, 1) := by decide +kernel
theorem d_M_linkCall_53 : decode b_M_linkCall 53 = .ok (.getfield 35, 3) := by decide +kernel
theorem d_M_linkCall_56 : decode b_M_linkCall 56 = .ok (.iload_n 3, 1) := by decide +kernel
theorem d_M_linkCall_57 : decode b_M_linkCall 57 = .ok (.iaload, 1) := by decide +kernel
theorem d_M_linkCall_58 : decode b_M_linkCall 58 = .ok (.bipush 8, 2) := by decide +kernel
theorem d_M_linkCall_60 : decode b_M_linkCall 60 = .ok (.iand, 1) := by decide +kernel
theorem d_M_linkCall_61 : decode b_M_linkCall 61 = .ok (.ifCond .eq 6, 3) := by decide +kernel
theorem d_M_linkCall_64 : decode b_M_linkCall 64 = .ok (.bipush (-8), 2) := by decide +kernel
theorem d_M_linkCall_66 : decode b_M_linkCall 66 = .ok (.ireturn, 1) := by decide +kernel
theorem d_M_linkCall_67 : decode b_M_linkCall 67 = .ok (.aload_n 0, 1) := by decide +kernel
theorem d_M_linkCall_68 : decode b_M_linkCall 68 = .ok (.getfield 35, 3) := by decide +kernel
theorem d_M_linkCall_71 : decode b_M_linkCall 71 = .ok (.iload_n 3, 1) := by decide +kernel
theorem d_M_linkCall_72 : decode b_M_linkCall 72 = .ok (.iaload, 1) := by decide +kernel
theorem d_M_linkCall_73 : decode b_M_linkCall 73 = .ok (.iconst 1, 1) := by decide +kernel
theorem d_M_linkCall_74 : decode b_M_linkCall 74 = .ok (.invokestatic 73, 3) := by decide +kernel
theorem d_M_linkCall_77 : decode b_M_linkCall 77 = .ok (.aload_n 0, 1) := by decide +kernel
theorem d_M_linkCall_78 : decode b_M_linkCall 78 = .ok (.getfield 41, 3) := by decide +kernel
theorem d_M_linkCall_81 : decode b_M_linkCall 81 = .ok (.iconst 3, 1) := by decide +kernel
theorem d_M_linkCall_82 : decode b_M_linkCall 82 = .ok (.iaload, 1) := by decide +kernel
theorem d_M_linkCall_83 : decode b_M_linkCall 83 = .ok (.if_icmp .eq 6, 3) := by decide +kernel
theorem d_M_linkCall_86 : decode b_M_linkCall 86 = .ok (.bipush (-9), 2) := by decide +kernel
theorem d_M_linkCall_88 : decode b_M_linkCall 88 = .ok (.ireturn, 1) := by decide +kernel
theorem d_M_linkCall_89 : decode b_M_linkCall 89 = .ok (.iload_n 3, 1) := by decide +kernel
theorem d_M_linkCall_90 : decode b_M_linkCall 90 = .ok (.bipush 12, 2) := by decide +kernel
theorem d_M_linkCall_92 : decode b_M_linkCall 92 = .ok (.idiv, 1) := by decide +kernel
theorem d_M_linkCall_93 : decode b_M_linkCall 93 = .ok (.bipush 6, 2) := by decide +kernel
theorem d_M_linkCall_95 : decode b_M_linkCall 95 = .ok (.irem, 1) := by decide +kernel
theorem d_M_linkCall_96 : decode b_M_linkCall 96 = .ok (.aload_n 0, 1) := by decide +kernel
theorem d_M_linkCall_97 : decode b_M_linkCall 97 = .ok (.getfield 41, 3) := by decide +kernel
theorem d_M_linkCall_100 : decode b_M_linkCall 100 = .ok (.bipush 6, 2) := by decide +kernel
theorem d_M_linkCall_102 : decode b_M_linkCall 102 = .ok (.iaload, 1) := by decide +kernel
theorem d_M_linkCall_103 : decode b_M_linkCall 103 = .ok (.if_icmp .ne 7, 3) := by decide +kernel
theorem d_M_linkCall_106 : decode b_M_linkCall 106 = .ok (.iconst 0, 1) := by decide +kernel
theorem d_M_linkCall_107 : decode b_M_linkCall 107 = .ok (.goto 4, 3) := by decide +kernel
theorem d_M_linkCall_110 : decode b_M_linkCall 110 = .ok (.iconst 1, 1) := by decide +kernel
theorem d_M_linkCall_111 : decode b_M_linkCall 111 = .ok (.ireturn, 1) := by decide +kernel
theorem d_M_linkOverride_0 : decode b_M_linkOverride 0 = .ok (.aload_n 0, 1) := by decide +kernel
theorem d_M_linkOverride_1 : decode b_M_linkOverride 1 = .ok (.iconst 1, 1) := by decide +kernel
theorem d_M_linkOverride_2 : decode b_M_linkOverride 2 = .ok (.iload_n 1, 1) := by decide +kernel
theorem d_M_linkOverride_3 : decode b_M_linkOverride 3 = .ok (.iload_n 2, 1) := by decide +kernel
theorem d_M_linkOverride_4 : decode b_M_linkOverride 4 = .ok (.aload_n 0, 1) := by decide +kernel
theorem d_M_linkOverride_5 : decode b_M_linkOverride 5 = .ok (.getfield 41, 3) := by decide +kernel
theorem d_M_linkOverride_8 : decode b_M_linkOverride 8 = .ok (.iconst 1, 1) := by decide +kernel
theorem d_M_linkOverride_9 : decode b_M_linkOverride 9 = .ok (.iaload, 1) := by decide +kernel
theorem d_M_linkOverride_10 : decode b_M_linkOverride 10 = .ok (.iconst (-1), 1) := by decide +kernel
theorem d_M_linkOverride_11 : decode b_M_linkOverride 11 = .ok (.invokevirtual 77, 3) := by decide +kernel
theorem d_M_linkOverride_14 : decode b_M_linkOverride 14 = .ok (.istore_n 3, 1) := by decide +kernel
theorem d_M_linkOverride_15 : decode b_M_linkOverride 15 = .ok (.iload_n 3, 1) := by decide +kernel
theorem d_M_linkOverride_16 : decode b_M_linkOverride 16 = .ok (.ifCond .lt 19, 3) := by decide +kernel
theorem d_M_linkOverride_19 : decode b_M_linkOverride 19 = .ok (.aload_n 0, 1) := by decide +kernel
theorem d_M_linkOverride_20 : decode b_M_linkOverride 20 = .ok (.getfield 35, 3) := by decide +kernel
theorem d_M_linkOverride_23 : decode b_M_linkOverride 23 = .ok (.iload_n 3, 1) := by decide +kernel
theorem d_M_linkOverride_24 : decode b_M_linkOverride 24 = .ok (.iaload, 1) := by decide +kernel
theorem d_M_linkOverride_25 : decode b_M_linkOverride 25 = .ok (.bipush 8, 2) := by decide +kernel
theorem d_M_linkOverride_27 : decode b_M_linkOverride 27 = .ok (.iand, 1) := by decide +kernel
theorem d_M_linkOverride_28 : decode b_M_linkOverride 28 = .ok (.ifCond .ne 7, 3) := by decide +kernel
theorem d_M_linkOverride_31 : decode b_M_linkOverride 31 = .ok (.iconst 1, 1) := by decide +kernel
theorem d_M_linkOverride_32 : decode b_M_linkOverride 32 = .ok (.goto 4, 3) := by decide +kernel
theorem d_M_linkOverride_35 : decode b_M_linkOverride 35 = .ok (.iconst 0, 1) := by decide +kernel
theorem d_M_linkOverride_36 : decode b_M_linkOverride 36 = .ok (.istore 4, 2) := by decide +kernel
theorem d_M_linkOverride_38 : decode b_M_linkOverride 38 = .ok (.iload 4, 2) := by decide +kernel
theorem d_M_linkOverride_40 : decode b_M_linkOverride 40 = .ok (.ifCond .eq 17, 3) := by decide +kernel
theorem d_M_linkOverride_43 : decode b_M_linkOverride 43 = .ok (.aload_n 0, 1) := by decide +kernel
theorem d_M_linkOverride_44 : decode b_M_linkOverride 44 = .ok (.getfield 35, 3) := by decide +kernel
theorem d_M_linkOverride_47 : decode b_M_linkOverride 47 = .ok (.iload_n 3, 1) := by decide +kernel
theorem d_M_linkOverride_48 : decode b_M_linkOverride 48 = .ok (.iaload, 1) := by decide +kernel
theorem d_M_linkOverride_49 : decode b_M_linkOverride 49 = .ok (.iconst 5, 1) := by decide +kernel
theorem d_M_linkOverride_50 : decode b_M_linkOverride 50 = .ok (.iand, 1) := by decide +kernel
theorem d_M_linkOverride_51 : decode b_M_linkOverride 51 = .ok (.ifCond .eq 6, 3) := by decide +kernel
theorem d_M_linkOverride_54 : decode b_M_linkOverride 54 = .ok (.bipush (-9), 2) := by decide +kernel
theorem d_M_linkOverride_56 : decode b_M_linkOverride 56 = .ok (.ireturn, 1) := by decide +kernel
theorem d_M_linkOverride_57 : decode b_M_linkOverride 57 = .ok (.iload 4, 2) := by decide +kernel
theorem d_M_linkOverride_59 : decode b_M_linkOverride 59 = .ok (.ifCond .eq 22, 3) := by decide +kernel
theorem d_M_linkOverride_62 : decode b_M_linkOverride 62 = .ok (.aload_n 0, 1) := by decide +kernel
theorem d_M_linkOverride_63 : decode b_M_linkOverride 63 = .ok (.getfield 32, 3) := by decide +kernel
theorem d_M_linkOverride_66 : decode b_M_linkOverride 66 = .ok (.iload_n 3, 1) := by decide +kernel
theorem d_M_linkOverride_67 : decode b_M_linkOverride 67 = .ok (.iaload, 1) := by decide +kernel
theorem d_M_linkOverride_68 : decode b_M_linkOverride 68 = .ok (.aload_n 0, 1) := by decide +kernel
theorem d_M_linkOverride_69 : decode b_M_linkOverride 69 = .ok (.getfield 41, 3) := by decide +kernel
theorem d_M_linkOverride_72 : decode b_M_linkOverride 72 = .ok (.iconst 2, 1) := by decide +kernel
theorem d_M_linkOverride_73 : decode b_M_linkOverride 73 = .ok (.iaload, 1) := by decide +kernel
theorem d_M_linkOverride_74 : decode b_M_linkOverride 74 = .ok (.if_icmp .ne 7, 3) := by decide +kernel
theorem d_M_linkOverride_77 : decode b_M_linkOverride 77 = .ok (.iconst 0, 1) := by decide +kernel
theorem d_M_linkOverride_78 : decode b_M_linkOverride 78 = .ok (.goto 4, 3) := by decide +kernel
theorem d_M_linkOverride_81 : decode b_M_linkOverride 81 = .ok (.iconst 3, 1) := by decide +kernel
theorem d_M_linkOverride_82 : decode b_M_linkOverride 82 = .ok (.ireturn, 1) := by decide +kernel
theorem d_M_linked_0 : decode b_M_linked 0 = .ok (.aload_n 0, 1) := by decide +kernel
theorem d_M_linked_1 : decode b_M_linked 1 = .ok (.iload_n 1, 1) := by decide +kernel
theorem d_M_linked_2 : decode b_M_linked 2 = .ok (.iconst 0, 1) := by decide +kernel
theorem d_M_linked_3 : decode b_M_linked 3 = .ok (.invokevirtual 94, 3) := by decide +kernel
theorem d_M_linked_6 : decode b_M_linked 6 = .ok (.istore_n 2, 1) := by decide +kernel
theorem d_M_linked_7 : decode b_M_linked 7 = .ok (.aload_n 0, 1) := by decide +kernel
theorem d_M_linked_8 : decode b_M_linked 8 = .ok (.getfield 38, 3) := by decide +kernel
theorem d_M_linked_11 : decode b_M_linked 11 = .ok (.iconst 4, 1) := by decide +kernel
theorem d_M_linked_12 : decode b_M_linked 12 = .ok (.iload_n 1, 1) := by decide +kernel
theorem d_M_linked_13 : decode b_M_linked 13 = .ok (.imul, 1) := by decide +kernel
theorem d_M_linked_14 : decode b_M_linked 14 = .ok (.iaload, 1) := by decide +kernel
theorem d_M_linked_15 : decode b_M_linked 15 = .ok (.istore_n 3, 1) := by decide +kernel
theorem d_M_linked_16 : decode b_M_linked 16 = .ok (.aload_n 0, 1) := by decide +kernel
theorem d_M_linked_17 : decode b_M_linked 17 = .ok (.getfield 38, 3) := by decide +kernel
theorem d_M_linked_20 : decode b_M_linked 20 = .ok (.iconst 4, 1) := by decide +kernel
theorem d_M_linked_21 : decode b_M_linked 21 = .ok (.iload_n 1, 1) := by decide +kernel
theorem d_M_linked_22 : decode b_M_linked 22 = .ok (.imul, 1) := by decide +kernel
theorem d_M_linked_23 : decode b_M_linked 23 = .ok (.iconst 1, 1) := by decide +kernel
theorem d_M_linked_24 : decode b_M_linked 24 = .ok (.iadd, 1) := by decide +kernel
theorem d_M_linked_25 : decode b_M_linked 25 = .ok (.iaload, 1) := by decide +kernel
theorem d_M_linked_26 : decode b_M_linked 26 = .ok (.istore 4, 2) := by decide +kernel
theorem d_M_linked_28 : decode b_M_linked 28 = .ok (.aload_n 0, 1) := by decide +kernel
theorem d_M_linked_29 : decode b_M_linked 29 = .ok (.getfield 38, 3) := by decide +kernel
theorem d_M_linked_32 : decode b_M_linked 32 = .ok (.iconst 4, 1) := by decide +kernel
theorem d_M_linked_33 : decode b_M_linked 33 = .ok (.iload_n 1, 1) := by decide +kernel
theorem d_M_linked_34 : decode b_M_linked 34 = .ok (.imul, 1) := by decide +kernel
theorem d_M_linked_35 : decode b_M_linked 35 = .ok (.iconst 2, 1) := by decide +kernel
theorem d_M_linked_36 : decode b_M_linked 36 = .ok (.iadd, 1) := by decide +kernel
theorem d_M_linked_37 : decode b_M_linked 37 = .ok (.iaload, 1) := by decide +kernel
theorem d_M_linked_38 : decode b_M_linked 38 = .ok (.istore 5, 2) := by decide +kernel
theorem d_M_linked_40 : decode b_M_linked 40 = .ok (.iload_n 2, 1) := by decide +kernel
theorem d_M_linked_41 : decode b_M_linked 41 = .ok (.ifCond .eq 5, 3) := by decide +kernel
theorem d_M_linked_44 : decode b_M_linked 44 = .ok (.iload_n 2, 1) := by decide +kernel
theorem d_M_linked_45 : decode b_M_linked 45 = .ok (.ireturn, 1) := by decide +kernel
theorem d_M_linked_46 : decode b_M_linked 46 = .ok (.aload_n 0, 1) := by decide +kernel
theorem d_M_linked_47 : decode b_M_linked 47 = .ok (.getfield 41, 3) := by decide +kernel
theorem d_M_linked_50 : decode b_M_linked 50 = .ok (.iconst 0, 1) := by decide +kernel
theorem d_M_linked_51 : decode b_M_linked 51 = .ok (.iaload, 1) := by decide +kernel
theorem d_M_linked_52 : decode b_M_linked 52 = .ok (.iconst 1, 1) := by decide +kernel
theorem d_M_linked_53 : decode b_M_linked 53 = .ok (.if_icmp .ne 12, 3) := by decide +kernel
theorem d_M_linked_56 : decode b_M_linked 56 = .ok (.aload_n 0, 1) := by decide +kernel
theorem d_M_linked_57 : decode b_M_linked 57 = .ok (.iload 4, 2) := by decide +kernel
theorem d_M_linked_59 : decode b_M_linked 59 = .ok (.iload 5, 2) := by decide +kernel
theorem d_M_linked_61 : decode b_M_linked 61 = .ok (.invokevirtual 97, 3) := by decide +kernel
theorem d_M_linked_64 : decode b_M_linked 64 = .ok (.ireturn, 1) := by decide +kernel
theorem d_M_linked_65 : decode b_M_linked 65 = .ok (.aload_n 0, 1) := by decide +kernel
theorem d_M_linked_66 : decode b_M_linked 66 = .ok (.getfield 7, 3) := by decide +kernel
theorem d_M_linked_69 : decode b_M_linked 69 = .ok (.bipush 6, 2) := by decide +kernel
theorem d_M_linked_71 : decode b_M_linked 71 = .ok (.iload 4, 2) := by decide +kernel
theorem d_M_linked_73 : decode b_M_linked 73 = .ok (.iadd, 1) := by decide +kernel
theorem d_M_linked_74 : decode b_M_linked 74 = .ok (.baload, 1) := by decide +kernel
theorem d_M_linked_75 : decode b_M_linked 75 = .ok (.ifCond .ne 6, 3) := by decide +kernel
theorem d_M_linked_78 : decode b_M_linked 78 = .ok (.bipush (-6), 2) := by decide +kernel
theorem d_M_linked_80 : decode b_M_linked 80 = .ok (.ireturn, 1) := by decide +kernel
theorem d_M_linked_81 : decode b_M_linked 81 = .ok (.aload_n 0, 1) := by decide +kernel
theorem d_M_linked_82 : decode b_M_linked 82 = .ok (.getfield 13, 3) := by decide +kernel
theorem d_M_linked_85 : decode b_M_linked 85 = .ok (.bipush 6, 2) := by decide +kernel
theorem d_M_linked_87 : decode b_M_linked 87 = .ok (.iload 4, 2) := by decide +kernel
theorem d_M_linked_89 : decode b_M_linked 89 = .ok (.iadd, 1) := by decide +kernel
theorem d_M_linked_90 : decode b_M_linked 90 = .ok (.iaload, 1) := by decide +kernel
theorem d_M_linked_91 : decode b_M_linked 91 = .ok (.istore 6, 2) := by decide +kernel
theorem d_M_linked_93 : decode b_M_linked 93 = .ok (.iload 6, 2) := by decide +kernel
theorem d_M_linked_95 : decode b_M_linked 95 = .ok (.bipush 8, 2) := by decide +kernel
theorem d_M_linked_97 : decode b_M_linked 97 = .ok (.iand, 1) := by decide +kernel
theorem d_M_linked_98 : decode b_M_linked 98 = .ok (.ifCond .eq 6, 3) := by decide +kernel
theorem d_M_linked_101 : decode b_M_linked 101 = .ok (.bipush (-8), 2) := by decide +kernel
theorem d_M_linked_103 : decode b_M_linked 103 = .ok (.ireturn, 1) := by decide +kernel
theorem d_M_linked_104 : decode b_M_linked 104 = .ok (.iload_n 3, 1) := by decide +kernel
theorem d_M_linked_105 : decode b_M_linked 105 = .ok (.iconst 2, 1) := by decide +kernel
theorem d_M_linked_106 : decode b_M_linked 106 = .ok (.if_icmp .ge 13, 3) := by decide +kernel
theorem d_M_linked_109 : decode b_M_linked 109 = .ok (.aload_n 0, 1) := by decide +kernel
theorem d_M_linked_110 : decode b_M_linked 110 = .ok (.iload_n 3, 1) := by decide +kernel
theorem d_M_linked_111 : decode b_M_linked 111 = .ok (.iload 4, 2) := by decide +kernel
theorem d_M_linked_113 : decode b_M_linked 113 = .ok (.iload 5, 2) := by decide +kernel
theorem d_M_linked_115 : decode b_M_linked 115 = .ok (.invokevirtual 100, 3) := by decide +kernel
theorem d_M_linked_118 : decode b_M_linked 118 = .ok (.ireturn, 1) := by decide +kernel
theorem d_M_linked_119 : decode b_M_linked 119 = .ok (.iload_n 3, 1) := by decide +kernel
theorem d_M_linked_120 : decode b_M_linked 120 = .ok (.iconst 4, 1) := by decide +kernel
theorem d_M_linked_121 : decode b_M_linked 121 = .ok (.if_icmp .ge 12, 3) := by decide +kernel
theorem d_M_linked_124 : decode b_M_linked 124 = .ok (.aload_n 0, 1) := by decide +kernel
end
section
theorem d_M_linked_125 : decode b_M_linked 125 = .ok (.iload 4, 2) := by decide +kernel
theorem d_M_linked_127 : decode b_M_linked 127 = .ok (.iload 5, 2) := by decide +kernel
theorem d_M_linked_129 : decode b_M_linked 129 = .ok (.invokevirtual 103, 3) := by decide +kernel
theorem d_M_linked_132 : decode b_M_linked 132 = .ok (.ireturn, 1) := by decide +kernel
theorem d_M_linked_133 : decode b_M_linked 133 = .ok (.iload_n 3, 1) := by decide +kernel
theorem d_M_linked_134 : decode b_M_linked 134 = .ok (.iconst 4, 1) := by decide +kernel
theorem d_M_linked_135 : decode b_M_linked 135 = .ok (.if_icmp .ne 17, 3) := by decide +kernel
theorem d_M_linked_138 : decode b_M_linked 138 = .ok (.iload 6, 2) := by decide +kernel
theorem d_M_linked_140 : decode b_M_linked 140 = .ok (.iconst 3, 1) := by decide +kernel
theorem d_M_linked_141 : decode b_M_linked 141 = .ok (.iand, 1) := by decide +kernel
theorem d_M_linked_142 : decode b_M_linked 142 = .ok (.ifCond .eq 8, 3) := by decide +kernel
theorem d_M_linked_145 : decode b_M_linked 145 = .ok (.bipush (-9), 2) := by decide +kernel
theorem d_M_linked_147 : decode b_M_linked 147 = .ok (.goto 4, 3) := by decide +kernel
theorem d_M_linked_150 : decode b_M_linked 150 = .ok (.iconst 0, 1) := by decide +kernel
theorem d_M_linked_151 : decode b_M_linked 151 = .ok (.ireturn, 1) := by decide +kernel
theorem d_M_linked_152 : decode b_M_linked 152 = .ok (.iload 6, 2) := by decide +kernel
theorem d_M_linked_154 : decode b_M_linked 154 = .ok (.iconst 4, 1) := by decide +kernel
theorem d_M_linked_155 : decode b_M_linked 155 = .ok (.iand, 1) := by decide +kernel
theorem d_M_linked_156 : decode b_M_linked 156 = .ok (.ifCond .ne 19, 3) := by decide +kernel
theorem d_M_linked_159 : decode b_M_linked 159 = .ok (.iload 6, 2) := by decide +kernel
theorem d_M_linked_161 : decode b_M_linked 161 = .ok (.iconst 1, 1) := by decide +kernel
theorem d_M_linked_162 : decode b_M_linked 162 = .ok (.iand, 1) := by decide +kernel
theorem d_M_linked_163 : decode b_M_linked 163 = .ok (.aload_n 0, 1) := by decide +kernel
theorem d_M_linked_164 : decode b_M_linked 164 = .ok (.getfield 13, 3) := by decide +kernel
theorem d_M_linked_167 : decode b_M_linked 167 = .ok (.iload 4, 2) := by decide +kernel
theorem d_M_linked_169 : decode b_M_linked 169 = .ok (.iaload, 1) := by decide +kernel
theorem d_M_linked_170 : decode b_M_linked 170 = .ok (.iconst 1, 1) := by decide +kernel
theorem d_M_linked_171 : decode b_M_linked 171 = .ok (.iand, 1) := by decide +kernel
theorem d_M_linked_172 : decode b_M_linked 172 = .ok (.if_icmp .eq 6, 3) := by decide +kernel
theorem d_M_linked_175 : decode b_M_linked 175 = .ok (.bipush (-9), 2) := by decide +kernel
theorem d_M_linked_177 : decode b_M_linked 177 = .ok (.ireturn, 1) := by decide +kernel
theorem d_M_linked_178 : decode b_M_linked 178 = .ok (.iload_n 3, 1) := by decide +kernel
theorem d_M_linked_179 : decode b_M_linked 179 = .ok (.iconst 5, 1) := by decide +kernel
theorem d_M_linked_180 : decode b_M_linked 180 = .ok (.if_icmp .ne 7, 3) := by decide +kernel
theorem d_M_linked_183 : decode b_M_linked 183 = .ok (.iconst 0, 1) := by decide +kernel
theorem d_M_linked_184 : decode b_M_linked 184 = .ok (.goto 11, 3) := by decide +kernel
theorem d_M_linked_187 : decode b_M_linked 187 = .ok (.aload_n 0, 1) := by decide +kernel
theorem d_M_linked_188 : decode b_M_linked 188 = .ok (.iload 4, 2) := by decide +kernel
theorem d_M_linked_190 : decode b_M_linked 190 = .ok (.iload 5, 2) := by decide +kernel
theorem d_M_linked_192 : decode b_M_linked 192 = .ok (.invokevirtual 106, 3) := by decide +kernel
theorem d_M_linked_195 : decode b_M_linked 195 = .ok (.ireturn, 1) := by decide +kernel
theorem d_M_link_0 : decode b_M_link 0 = .ok (.iload_n 1, 1) := by decide +kernel
theorem d_M_link_1 : decode b_M_link 1 = .ok (.iconst 0, 1) := by decide +kernel
theorem d_M_link_2 : decode b_M_link 2 = .ok (.aload_n 0, 1) := by decide +kernel
theorem d_M_link_3 : decode b_M_link 3 = .ok (.getfield 59, 3) := by decide +kernel
theorem d_M_link_6 : decode b_M_link 6 = .ok (.iconst 1, 1) := by decide +kernel
theorem d_M_link_7 : decode b_M_link 7 = .ok (.isub, 1) := by decide +kernel
theorem d_M_link_8 : decode b_M_link 8 = .ok (.invokestatic 47, 3) := by decide +kernel
theorem d_M_link_11 : decode b_M_link 11 = .ok (.ifCond .eq 11, 3) := by decide +kernel
theorem d_M_link_14 : decode b_M_link 14 = .ok (.aload_n 0, 1) := by decide +kernel
theorem d_M_link_15 : decode b_M_link 15 = .ok (.iload_n 1, 1) := by decide +kernel
theorem d_M_link_16 : decode b_M_link 16 = .ok (.invokevirtual 109, 3) := by decide +kernel
theorem d_M_link_19 : decode b_M_link 19 = .ok (.goto 4, 3) := by decide +kernel
theorem d_M_link_22 : decode b_M_link 22 = .ok (.iconst (-1), 1) := by decide +kernel
theorem d_M_link_23 : decode b_M_link 23 = .ok (.ireturn, 1) := by decide +kernel
theorem d_M_recompile_0 : decode b_M_recompile 0 = .ok (.iload_n 1, 1) := by decide +kernel
theorem d_M_recompile_1 : decode b_M_recompile 1 = .ok (.iconst 0, 1) := by decide +kernel
theorem d_M_recompile_2 : decode b_M_recompile 2 = .ok (.aload_n 0, 1) := by decide +kernel
theorem d_M_recompile_3 : decode b_M_recompile 3 = .ok (.getfield 59, 3) := by decide +kernel
theorem d_M_recompile_6 : decode b_M_recompile 6 = .ok (.iconst 1, 1) := by decide +kernel
theorem d_M_recompile_7 : decode b_M_recompile 7 = .ok (.isub, 1) := by decide +kernel
theorem d_M_recompile_8 : decode b_M_recompile 8 = .ok (.invokestatic 47, 3) := by decide +kernel
theorem d_M_recompile_11 : decode b_M_recompile 11 = .ok (.ifCond .ne 5, 3) := by decide +kernel
theorem d_M_recompile_14 : decode b_M_recompile 14 = .ok (.iconst (-1), 1) := by decide +kernel
theorem d_M_recompile_15 : decode b_M_recompile 15 = .ok (.ireturn, 1) := by decide +kernel
theorem d_M_recompile_16 : decode b_M_recompile 16 = .ok (.aload_n 0, 1) := by decide +kernel
theorem d_M_recompile_17 : decode b_M_recompile 17 = .ok (.iload_n 1, 1) := by decide +kernel
theorem d_M_recompile_18 : decode b_M_recompile 18 = .ok (.iconst 0, 1) := by decide +kernel
theorem d_M_recompile_19 : decode b_M_recompile 19 = .ok (.invokevirtual 94, 3) := by decide +kernel
theorem d_M_recompile_22 : decode b_M_recompile 22 = .ok (.istore_n 2, 1) := by decide +kernel
theorem d_M_recompile_23 : decode b_M_recompile 23 = .ok (.iload_n 2, 1) := by decide +kernel
theorem d_M_recompile_24 : decode b_M_recompile 24 = .ok (.ifCond .ne 10, 3) := by decide +kernel
theorem d_M_recompile_27 : decode b_M_recompile 27 = .ok (.aload_n 0, 1) := by decide +kernel
theorem d_M_recompile_28 : decode b_M_recompile 28 = .ok (.iload_n 1, 1) := by decide +kernel
theorem d_M_recompile_29 : decode b_M_recompile 29 = .ok (.iconst 1, 1) := by decide +kernel
theorem d_M_recompile_30 : decode b_M_recompile 30 = .ok (.invokevirtual 94, 3) := by decide +kernel
theorem d_M_recompile_33 : decode b_M_recompile 33 = .ok (.istore_n 2, 1) := by decide +kernel
theorem d_M_recompile_34 : decode b_M_recompile 34 = .ok (.iload_n 2, 1) := by decide +kernel
theorem d_M_recompile_35 : decode b_M_recompile 35 = .ok (.ifCond .eq 5, 3) := by decide +kernel
theorem d_M_recompile_38 : decode b_M_recompile 38 = .ok (.iload_n 2, 1) := by decide +kernel
theorem d_M_recompile_39 : decode b_M_recompile 39 = .ok (.ireturn, 1) := by decide +kernel
theorem d_M_recompile_40 : decode b_M_recompile 40 = .ok (.iconst 0, 1) := by decide +kernel
theorem d_M_recompile_41 : decode b_M_recompile 41 = .ok (.istore_n 3, 1) := by decide +kernel
theorem d_M_recompile_42 : decode b_M_recompile 42 = .ok (.iload_n 3, 1) := by decide +kernel
theorem d_M_recompile_43 : decode b_M_recompile 43 = .ok (.bipush 6, 2) := by decide +kernel
theorem d_M_recompile_45 : decode b_M_recompile 45 = .ok (.if_icmp .ge 29, 3) := by decide +kernel
theorem d_M_recompile_48 : decode b_M_recompile 48 = .ok (.aload_n 0, 1) := by decide +kernel
theorem d_M_recompile_49 : decode b_M_recompile 49 = .ok (.getfield 41, 3) := by decide +kernel
theorem d_M_recompile_52 : decode b_M_recompile 52 = .ok (.iload_n 3, 1) := by decide +kernel
theorem d_M_recompile_53 : decode b_M_recompile 53 = .ok (.iaload, 1) := by decide +kernel
theorem d_M_recompile_54 : decode b_M_recompile 54 = .ok (.aload_n 0, 1) := by decide +kernel
theorem d_M_recompile_55 : decode b_M_recompile 55 = .ok (.getfield 41, 3) := by decide +kernel
theorem d_M_recompile_58 : decode b_M_recompile 58 = .ok (.bipush 7, 2) := by decide +kernel
theorem d_M_recompile_60 : decode b_M_recompile 60 = .ok (.iload_n 3, 1) := by decide +kernel
theorem d_M_recompile_61 : decode b_M_recompile 61 = .ok (.iadd, 1) := by decide +kernel
theorem d_M_recompile_62 : decode b_M_recompile 62 = .ok (.iaload, 1) := by decide +kernel
theorem d_M_recompile_63 : decode b_M_recompile 63 = .ok (.if_icmp .eq 5, 3) := by decide +kernel
theorem d_M_recompile_66 : decode b_M_recompile 66 = .ok (.iconst 1, 1) := by decide +kernel
theorem d_M_recompile_67 : decode b_M_recompile 67 = .ok (.ireturn, 1) := by decide +kernel
theorem d_M_recompile_68 : decode b_M_recompile 68 = .ok (.iinc 3 1, 3) := by decide +kernel
theorem d_M_recompile_71 : decode b_M_recompile 71 = .ok (.goto (-29), 3) := by decide +kernel
theorem d_M_recompile_74 : decode b_M_recompile 74 = .ok (.iconst 0, 1) := by decide +kernel
theorem d_M_recompile_75 : decode b_M_recompile 75 = .ok (.ireturn, 1) := by decide +kernel
theorem d_M_value_0 : decode b_M_value 0 = .ok (.iload_n 1, 1) := by decide +kernel
theorem d_M_value_1 : decode b_M_value 1 = .ok (.iconst 0, 1) := by decide +kernel
theorem d_M_value_2 : decode b_M_value 2 = .ok (.aload_n 0, 1) := by decide +kernel
theorem d_M_value_3 : decode b_M_value 3 = .ok (.getfield 59, 3) := by decide +kernel
theorem d_M_value_6 : decode b_M_value 6 = .ok (.iconst 1, 1) := by decide +kernel
theorem d_M_value_7 : decode b_M_value 7 = .ok (.isub, 1) := by decide +kernel
theorem d_M_value_8 : decode b_M_value 8 = .ok (.invokestatic 47, 3) := by decide +kernel
theorem d_M_value_11 : decode b_M_value 11 = .ok (.ifCond .eq 33, 3) := by decide +kernel
theorem d_M_value_14 : decode b_M_value 14 = .ok (.iload_n 2, 1) := by decide +kernel
theorem d_M_value_15 : decode b_M_value 15 = .ok (.iconst 0, 1) := by decide +kernel
theorem d_M_value_16 : decode b_M_value 16 = .ok (.iconst 1, 1) := by decide +kernel
theorem d_M_value_17 : decode b_M_value 17 = .ok (.invokestatic 47, 3) := by decide +kernel
theorem d_M_value_20 : decode b_M_value 20 = .ok (.ifCond .eq 24, 3) := by decide +kernel
theorem d_M_value_23 : decode b_M_value 23 = .ok (.aload_n 0, 1) := by decide +kernel
theorem d_M_value_24 : decode b_M_value 24 = .ok (.iload_n 1, 1) := by decide +kernel
theorem d_M_value_25 : decode b_M_value 25 = .ok (.iload_n 2, 1) := by decide +kernel
theorem d_M_value_26 : decode b_M_value 26 = .ok (.invokevirtual 94, 3) := by decide +kernel
theorem d_M_value_29 : decode b_M_value 29 = .ok (.ifCond .ne 15, 3) := by decide +kernel
theorem d_M_value_32 : decode b_M_value 32 = .ok (.aload_n 0, 1) := by decide +kernel
theorem d_M_value_33 : decode b_M_value 33 = .ok (.getfield 41, 3) := by decide +kernel
theorem d_M_value_36 : decode b_M_value 36 = .ok (.bipush 7, 2) := by decide +kernel
theorem d_M_value_38 : decode b_M_value 38 = .ok (.iload_n 2, 1) := by decide +kernel
theorem d_M_value_39 : decode b_M_value 39 = .ok (.imul, 1) := by decide +kernel
theorem d_M_value_40 : decode b_M_value 40 = .ok (.iaload, 1) := by decide +kernel
theorem d_M_value_41 : decode b_M_value 41 = .ok (.ifCond .ne 5, 3) := by decide +kernel
theorem d_M_value_44 : decode b_M_value 44 = .ok (.dconst 0, 1) := by decide +kernel
theorem d_M_value_45 : decode b_M_value 45 = .ok (.dreturn, 1) := by decide +kernel
theorem d_M_value_46 : decode b_M_value 46 = .ok (.aload_n 0, 1) := by decide +kernel
theorem d_M_value_47 : decode b_M_value 47 = .ok (.getfield 41, 3) := by decide +kernel
theorem d_M_value_50 : decode b_M_value 50 = .ok (.bipush 7, 2) := by decide +kernel
theorem d_M_value_52 : decode b_M_value 52 = .ok (.iload_n 2, 1) := by decide +kernel
theorem d_M_value_53 : decode b_M_value 53 = .ok (.imul, 1) := by decide +kernel
theorem d_M_value_54 : decode b_M_value 54 = .ok (.iconst 1, 1) := by decide +kernel
theorem d_M_value_55 : decode b_M_value 55 = .ok (.iadd, 1) := by decide +kernel
theorem d_M_value_56 : decode b_M_value 56 = .ok (.iaload, 1) := by decide +kernel
theorem d_M_value_57 : decode b_M_value 57 = .ok (.ifCond .ne 18, 3) := by decide +kernel
theorem d_M_value_60 : decode b_M_value 60 = .ok (.aload_n 0, 1) := by decide +kernel
theorem d_M_value_61 : decode b_M_value 61 = .ok (.getfield 41, 3) := by decide +kernel
theorem d_M_value_64 : decode b_M_value 64 = .ok (.bipush 7, 2) := by decide +kernel
theorem d_M_value_66 : decode b_M_value 66 = .ok (.iload_n 2, 1) := by decide +kernel
theorem d_M_value_67 : decode b_M_value 67 = .ok (.imul, 1) := by decide +kernel
theorem d_M_value_68 : decode b_M_value 68 = .ok (.iconst 5, 1) := by decide +kernel
theorem d_M_value_69 : decode b_M_value 69 = .ok (.iadd, 1) := by decide +kernel
theorem d_M_value_70 : decode b_M_value 70 = .ok (.iaload, 1) := by decide +kernel
theorem d_M_value_71 : decode b_M_value 71 = .ok (.i2d, 1) := by decide +kernel
theorem d_M_value_72 : decode b_M_value 72 = .ok (.goto 19, 3) := by decide +kernel
theorem d_M_value_75 : decode b_M_value 75 = .ok (.aload_n 0, 1) := by decide +kernel
theorem d_M_value_76 : decode b_M_value 76 = .ok (.getfield 41, 3) := by decide +kernel
theorem d_M_value_79 : decode b_M_value 79 = .ok (.bipush 7, 2) := by decide +kernel
theorem d_M_value_81 : decode b_M_value 81 = .ok (.iload_n 2, 1) := by decide +kernel
theorem d_M_value_82 : decode b_M_value 82 = .ok (.imul, 1) := by decide +kernel
theorem d_M_value_83 : decode b_M_value 83 = .ok (.iconst 5, 1) := by decide +kernel
theorem d_M_value_84 : decode b_M_value 84 = .ok (.iadd, 1) := by decide +kernel
theorem d_M_value_85 : decode b_M_value 85 = .ok (.iaload, 1) := by decide +kernel
theorem d_M_value_86 : decode b_M_value 86 = .ok (.i2d, 1) := by decide +kernel
theorem d_M_value_87 : decode b_M_value 87 = .ok (.ldc2_w 113, 3) := by decide +kernel
theorem d_M_value_90 : decode b_M_value 90 = .ok (.dmul, 1) := by decide +kernel
theorem d_M_value_91 : decode b_M_value 91 = .ok (.dreturn, 1) := by decide +kernel
theorem d_M_state_0 : decode b_M_state 0 = .ok (.aload_n 0, 1) := by decide +kernel
theorem d_M_state_1 : decode b_M_state 1 = .ok (.iload_n 1, 1) := by decide +kernel
theorem d_M_state_2 : decode b_M_state 2 = .ok (.iconst 0, 1) := by decide +kernel
theorem d_M_state_3 : decode b_M_state 3 = .ok (.invokevirtual 94, 3) := by decide +kernel
theorem d_M_state_6 : decode b_M_state 6 = .ok (.ifCond .eq 5, 3) := by decide +kernel
theorem d_M_state_9 : decode b_M_state 9 = .ok (.iconst 0, 1) := by decide +kernel
theorem d_M_state_10 : decode b_M_state 10 = .ok (.ireturn, 1) := by decide +kernel
theorem d_M_state_11 : decode b_M_state 11 = .ok (.aload_n 0, 1) := by decide +kernel
theorem d_M_state_12 : decode b_M_state 12 = .ok (.iload_n 1, 1) := by decide +kernel
theorem d_M_state_13 : decode b_M_state 13 = .ok (.invokevirtual 109, 3) := by decide +kernel
theorem d_M_state_16 : decode b_M_state 16 = .ok (.ifCond .ge 7, 3) := by decide +kernel
theorem d_M_state_19 : decode b_M_state 19 = .ok (.iconst 2, 1) := by decide +kernel
theorem d_M_state_20 : decode b_M_state 20 = .ok (.goto 4, 3) := by decide +kernel
theorem d_M_state_23 : decode b_M_state 23 = .ok (.iconst 1, 1) := by decide +kernel
theorem d_M_state_24 : decode b_M_state 24 = .ok (.ireturn, 1) := by decide +kernel
theorem d_M_having_0 : decode b_M_having 0 = .ok (.iconst 0, 1) := by decide +kernel
theorem d_M_having_1 : decode b_M_having 1 = .ok (.istore_n 2, 1) := by decide +kernel
theorem d_M_having_2 : decode b_M_having 2 = .ok (.iconst 0, 1) := by decide +kernel
theorem d_M_having_3 : decode b_M_having 3 = .ok (.istore_n 3, 1) := by decide +kernel
theorem d_M_having_4 : decode b_M_having 4 = .ok (.iload_n 3, 1) := by decide +kernel
theorem d_M_having_5 : decode b_M_having 5 = .ok (.aload_n 0, 1) := by decide +kernel
theorem d_M_having_6 : decode b_M_having 6 = .ok (.getfield 59, 3) := by decide +kernel
theorem d_M_having_9 : decode b_M_having 9 = .ok (.if_icmp .ge 21, 3) := by decide +kernel
theorem d_M_having_12 : decode b_M_having 12 = .ok (.aload_n 0, 1) := by decide +kernel
theorem d_M_having_13 : decode b_M_having 13 = .ok (.iload_n 3, 1) := by decide +kernel
theorem d_M_having_14 : decode b_M_having 14 = .ok (.invokevirtual 115, 3) := by decide +kernel
theorem d_M_having_17 : decode b_M_having 17 = .ok (.iload_n 1, 1) := by decide +kernel
theorem d_M_having_18 : decode b_M_having 18 = .ok (.if_icmp .ne 6, 3) := by decide +kernel
theorem d_M_having_21 : decode b_M_having 21 = .ok (.iinc 2 1, 3) := by decide +kernel
theorem d_M_having_24 : decode b_M_having 24 = .ok (.iinc 3 1, 3) := by decide +kernel
theorem d_M_having_27 : decode b_M_having 27 = .ok (.goto (-23), 3) := by decide +kernel
theorem d_M_having_30 : decode b_M_having 30 = .ok (.iload_n 2, 1) := by decide +kernel
theorem d_M_having_31 : decode b_M_having 31 = .ok (.ireturn, 1) := by decide +kernel
theorem d_M_share_0 : decode b_M_share 0 = .ok (.aload_n 0, 1) := by decide +kernel
theorem d_M_share_1 : decode b_M_share 1 = .ok (.iconst 1, 1) := by decide +kernel
theorem d_M_share_2 : decode b_M_share 2 = .ok (.invokevirtual 118, 3) := by decide +kernel
theorem d_M_share_5 : decode b_M_share 5 = .ok (.istore_n 1, 1) := by decide +kernel
theorem d_M_share_6 : decode b_M_share 6 = .ok (.iload_n 1, 1) := by decide +kernel
theorem d_M_share_7 : decode b_M_share 7 = .ok (.aload_n 0, 1) := by decide +kernel
theorem d_M_share_8 : decode b_M_share 8 = .ok (.iconst 2, 1) := by decide +kernel
theorem d_M_share_9 : decode b_M_share 9 = .ok (.invokevirtual 118, 3) := by decide +kernel
theorem d_M_share_12 : decode b_M_share 12 = .ok (.iadd, 1) := by decide +kernel
theorem d_M_share_13 : decode b_M_share 13 = .ok (.istore_n 2, 1) := by decide +kernel
theorem d_M_share_14 : decode b_M_share 14 = .ok (.iload_n 2, 1) := by decide +kernel
theorem d_M_share_15 : decode b_M_share 15 = .ok (.ifCond .ne 7, 3) := by decide +kernel
theorem d_M_share_18 : decode b_M_share 18 = .ok (.dconst 1, 1) := by decide +kernel
theorem d_M_share_19 : decode b_M_share 19 = .ok (.goto 8, 3) := by decide +kernel
theorem d_M_share_22 : decode b_M_share 22 = .ok (.iload_n 1, 1) := by decide +kernel
theorem d_M_share_23 : decode b_M_share 23 = .ok (.i2d, 1) := by decide +kernel
theorem d_M_share_24 : decode b_M_share 24 = .ok (.iload_n 2, 1) := by decide +kernel
theorem d_M_share_25 : decode b_M_share 25 = .ok (.i2d, 1) := by decide +kernel
theorem d_M_share_26 : decode b_M_share 26 = .ok (.ddiv, 1) := by decide +kernel
theorem d_M_share_27 : decode b_M_share 27 = .ok (.dreturn, 1) := by decide +kernel
theorem d_M_breaking_0 : decode b_M_breaking 0 = .ok (.aload_n 0, 1) := by decide +kernel
theorem d_M_breaking_1 : decode b_M_breaking 1 = .ok (.iconst 2, 1) := by decide +kernel
theorem d_M_breaking_2 : decode b_M_breaking 2 = .ok (.invokevirtual 118, 3) := by decide +kernel
theorem d_M_breaking_5 : decode b_M_breaking 5 = .ok (.ireturn, 1) := by decide +kernel
theorem d_M_broken_0 : decode b_M_broken 0 = .ok (.iconst 0, 1) := by decide +kernel
theorem d_M_broken_1 : decode b_M_broken 1 = .ok (.istore_n 2, 1) := by decide +kernel
theorem d_M_broken_2 : decode b_M_broken 2 = .ok (.iconst 0, 1) := by decide +kernel
theorem d_M_broken_3 : decode b_M_broken 3 = .ok (.istore_n 3, 1) := by decide +kernel
theorem d_M_broken_4 : decode b_M_broken 4 = .ok (.iload_n 3, 1) := by decide +kernel
theorem d_M_broken_5 : decode b_M_broken 5 = .ok (.aload_n 0, 1) := by decide +kernel
theorem d_M_broken_6 : decode b_M_broken 6 = .ok (.getfield 59, 3) := by decide +kernel
theorem d_M_broken_9 : decode b_M_broken 9 = .ok (.if_icmp .ge 31, 3) := by decide +kernel
theorem d_M_broken_12 : decode b_M_broken 12 = .ok (.aload_n 0, 1) := by decide +kernel
theorem d_M_broken_13 : decode b_M_broken 13 = .ok (.iload_n 3, 1) := by decide +kernel
theorem d_M_broken_14 : decode b_M_broken 14 = .ok (.invokevirtual 115, 3) := by decide +kernel
theorem d_M_broken_17 : decode b_M_broken 17 = .ok (.iconst 2, 1) := by decide +kernel
theorem d_M_broken_18 : decode b_M_broken 18 = .ok (.if_icmp .eq 6, 3) := by decide +kernel
theorem d_M_broken_21 : decode b_M_broken 21 = .ok (.goto 13, 3) := by decide +kernel
theorem d_M_broken_24 : decode b_M_broken 24 = .ok (.iload_n 2, 1) := by decide +kernel
theorem d_M_broken_25 : decode b_M_broken 25 = .ok (.iload_n 1, 1) := by decide +kernel
theorem d_M_broken_26 : decode b_M_broken 26 = .ok (.if_icmp .ne 5, 3) := by decide +kernel
theorem d_M_broken_29 : decode b_M_broken 29 = .ok (.iload_n 3, 1) := by decide +kernel
theorem d_M_broken_30 : decode b_M_broken 30 = .ok (.ireturn, 1) := by decide +kernel
theorem d_M_broken_31 : decode b_M_broken 31 = .ok (.iinc 2 1, 3) := by decide +kernel
theorem d_M_broken_34 : decode b_M_broken 34 = .ok (.iinc 3 1, 3) := by decide +kernel
theorem d_M_broken_37 : decode b_M_broken 37 = .ok (.goto (-33), 3) := by decide +kernel
theorem d_M_broken_40 : decode b_M_broken 40 = .ok (.iconst (-1), 1) := by decide +kernel
theorem d_M_broken_41 : decode b_M_broken 41 = .ok (.ireturn, 1) := by decide +kernel
theorem d_M_differences_0 : decode b_M_differences 0 = .ok (.iconst 0, 1) := by decide +kernel
theorem d_M_differences_1 : decode b_M_differences 1 = .ok (.istore_n 2, 1) := by decide +kernel
theorem d_M_differences_2 : decode b_M_differences 2 = .ok (.bipush 6, 2) := by decide +kernel
theorem d_M_differences_4 : decode b_M_differences 4 = .ok (.iload_n 1, 1) := by decide +kernel
theorem d_M_differences_5 : decode b_M_differences 5 = .ok (.iadd, 1) := by decide +kernel
theorem d_M_differences_6 : decode b_M_differences 6 = .ok (.istore_n 3, 1) := by decide +kernel
theorem d_M_differences_7 : decode b_M_differences 7 = .ok (.aload_n 0, 1) := by decide +kernel
theorem d_M_differences_8 : decode b_M_differences 8 = .ok (.getfield 13, 3) := by decide +kernel
theorem d_M_differences_11 : decode b_M_differences 11 = .ok (.iload_n 1, 1) := by decide +kernel
theorem d_M_differences_12 : decode b_M_differences 12 = .ok (.iaload, 1) := by decide +kernel
theorem d_M_differences_13 : decode b_M_differences 13 = .ok (.aload_n 0, 1) := by decide +kernel
theorem d_M_differences_14 : decode b_M_differences 14 = .ok (.getfield 13, 3) := by decide +kernel
theorem d_M_differences_17 : decode b_M_differences 17 = .ok (.iload_n 3, 1) := by decide +kernel
theorem d_M_differences_18 : decode b_M_differences 18 = .ok (.iaload, 1) := by decide +kernel
theorem d_M_differences_19 : decode b_M_differences 19 = .ok (.if_icmp .eq 6, 3) := by decide +kernel
theorem d_M_differences_22 : decode b_M_differences 22 = .ok (.iinc 2 1, 3) := by decide +kernel
theorem d_M_differences_25 : decode b_M_differences 25 = .ok (.aload_n 0, 1) := by decide +kernel
theorem d_M_differences_26 : decode b_M_differences 26 = .ok (.getfield 17, 3) := by decide +kernel
theorem d_M_differences_29 : decode b_M_differences 29 = .ok (.iload_n 1, 1) := by decide +kernel
theorem d_M_differences_30 : decode b_M_differences 30 = .ok (.iaload, 1) := by decide +kernel
theorem d_M_differences_31 : decode b_M_differences 31 = .ok (.aload_n 0, 1) := by decide +kernel
theorem d_M_differences_32 : decode b_M_differences 32 = .ok (.getfield 17, 3) := by decide +kernel
theorem d_M_differences_35 : decode b_M_differences 35 = .ok (.iload_n 3, 1) := by decide +kernel
theorem d_M_differences_36 : decode b_M_differences 36 = .ok (.iaload, 1) := by decide +kernel
theorem d_M_differences_37 : decode b_M_differences 37 = .ok (.if_icmp .eq 6, 3) := by decide +kernel
theorem d_M_differences_40 : decode b_M_differences 40 = .ok (.iinc 2 1, 3) := by decide +kernel
theorem d_M_differences_43 : decode b_M_differences 43 = .ok (.aload_n 0, 1) := by decide +kernel
theorem d_M_differences_44 : decode b_M_differences 44 = .ok (.getfield 20, 3) := by decide +kernel
theorem d_M_differences_47 : decode b_M_differences 47 = .ok (.iload_n 1, 1) := by decide +kernel
theorem d_M_differences_48 : decode b_M_differences 48 = .ok (.iaload, 1) := by decide +kernel
theorem d_M_differences_49 : decode b_M_differences 49 = .ok (.aload_n 0, 1) := by decide +kernel
theorem d_M_differences_50 : decode b_M_differences 50 = .ok (.getfield 20, 3) := by decide +kernel
theorem d_M_differences_53 : decode b_M_differences 53 = .ok (.iload_n 3, 1) := by decide +kernel
theorem d_M_differences_54 : decode b_M_differences 54 = .ok (.iaload, 1) := by decide +kernel
theorem d_M_differences_55 : decode b_M_differences 55 = .ok (.if_icmp .eq 6, 3) := by decide +kernel
theorem d_M_differences_58 : decode b_M_differences 58 = .ok (.iinc 2 1, 3) := by decide +kernel
theorem d_M_differences_61 : decode b_M_differences 61 = .ok (.iconst 0, 1) := by decide +kernel
theorem d_M_differences_62 : decode b_M_differences 62 = .ok (.istore 4, 2) := by decide +kernel
theorem d_M_differences_64 : decode b_M_differences 64 = .ok (.iload 4, 2) := by decide +kernel
theorem d_M_differences_66 : decode b_M_differences 66 = .ok (.iconst 4, 1) := by decide +kernel
theorem d_M_differences_67 : decode b_M_differences 67 = .ok (.if_icmp .ge 136, 3) := by decide +kernel
theorem d_M_differences_70 : decode b_M_differences 70 = .ok (.iconst 4, 1) := by decide +kernel
theorem d_M_differences_71 : decode b_M_differences 71 = .ok (.iload_n 1, 1) := by decide +kernel
theorem d_M_differences_72 : decode b_M_differences 72 = .ok (.imul, 1) := by decide +kernel
theorem d_M_differences_73 : decode b_M_differences 73 = .ok (.iload 4, 2) := by decide +kernel
theorem d_M_differences_75 : decode b_M_differences 75 = .ok (.iadd, 1) := by decide +kernel
theorem d_M_differences_76 : decode b_M_differences 76 = .ok (.istore 5, 2) := by decide +kernel
theorem d_M_differences_78 : decode b_M_differences 78 = .ok (.iconst 4, 1) := by decide +kernel
theorem d_M_differences_79 : decode b_M_differences 79 = .ok (.iload_n 3, 1) := by decide +kernel
theorem d_M_differences_80 : decode b_M_differences 80 = .ok (.imul, 1) := by decide +kernel
theorem d_M_differences_81 : decode b_M_differences 81 = .ok (.iload 4, 2) := by decide +kernel
theorem d_M_differences_83 : decode b_M_differences 83 = .ok (.iadd, 1) := by decide +kernel
theorem d_M_differences_84 : decode b_M_differences 84 = .ok (.istore 6, 2) := by decide +kernel
theorem d_M_differences_86 : decode b_M_differences 86 = .ok (.aload_n 0, 1) := by decide +kernel
theorem d_M_differences_87 : decode b_M_differences 87 = .ok (.getfield 23, 3) := by decide +kernel
theorem d_M_differences_90 : decode b_M_differences 90 = .ok (.iload 5, 2) := by decide +kernel
theorem d_M_differences_92 : decode b_M_differences 92 = .ok (.iaload, 1) := by decide +kernel
theorem d_M_differences_93 : decode b_M_differences 93 = .ok (.aload_n 0, 1) := by decide +kernel
theorem d_M_differences_94 : decode b_M_differences 94 = .ok (.getfield 23, 3) := by decide +kernel
theorem d_M_differences_97 : decode b_M_differences 97 = .ok (.iload 6, 2) := by decide +kernel
theorem d_M_differences_99 : decode b_M_differences 99 = .ok (.iaload, 1) := by decide +kernel
theorem d_M_differences_100 : decode b_M_differences 100 = .ok (.if_icmp .ne 34, 3) := by decide +kernel
theorem d_M_differences_103 : decode b_M_differences 103 = .ok (.aload_n 0, 1) := by decide +kernel
theorem d_M_differences_104 : decode b_M_differences 104 = .ok (.getfield 23, 3) := by decide +kernel
theorem d_M_differences_107 : decode b_M_differences 107 = .ok (.iload 5, 2) := by decide +kernel
theorem d_M_differences_109 : decode b_M_differences 109 = .ok (.iaload, 1) := by decide +kernel
theorem d_M_differences_110 : decode b_M_differences 110 = .ok (.ifCond .lt 20, 3) := by decide +kernel
theorem d_M_differences_113 : decode b_M_differences 113 = .ok (.aload_n 0, 1) := by decide +kernel
theorem d_M_differences_114 : decode b_M_differences 114 = .ok (.getfield 26, 3) := by decide +kernel
theorem d_M_differences_117 : decode b_M_differences 117 = .ok (.iload 5, 2) := by decide +kernel
theorem d_M_differences_119 : decode b_M_differences 119 = .ok (.iaload, 1) := by decide +kernel
theorem d_M_differences_120 : decode b_M_differences 120 = .ok (.aload_n 0, 1) := by decide +kernel
theorem d_M_differences_121 : decode b_M_differences 121 = .ok (.getfield 26, 3) := by decide +kernel
theorem d_M_differences_124 : decode b_M_differences 124 = .ok (.iload 6, 2) := by decide +kernel
theorem d_M_differences_126 : decode b_M_differences 126 = .ok (.iaload, 1) := by decide +kernel
theorem d_M_differences_127 : decode b_M_differences 127 = .ok (.if_icmp .ne 7, 3) := by decide +kernel
theorem d_M_differences_130 : decode b_M_differences 130 = .ok (.iconst 1, 1) := by decide +kernel
theorem d_M_differences_131 : decode b_M_differences 131 = .ok (.goto 4, 3) := by decide +kernel
theorem d_M_differences_134 : decode b_M_differences 134 = .ok (.iconst 0, 1) := by decide +kernel
theorem d_M_differences_135 : decode b_M_differences 135 = .ok (.istore 7, 2) := by decide +kernel
theorem d_M_differences_137 : decode b_M_differences 137 = .ok (.aload_n 0, 1) := by decide +kernel
theorem d_M_differences_138 : decode b_M_differences 138 = .ok (.getfield 23, 3) := by decide +kernel
theorem d_M_differences_141 : decode b_M_differences 141 = .ok (.iload 5, 2) := by decide +kernel
theorem d_M_differences_143 : decode b_M_differences 143 = .ok (.iaload, 1) := by decide +kernel
theorem d_M_differences_144 : decode b_M_differences 144 = .ok (.ifCond .lt 20, 3) := by decide +kernel
theorem d_M_differences_147 : decode b_M_differences 147 = .ok (.aload_n 0, 1) := by decide +kernel
theorem d_M_differences_148 : decode b_M_differences 148 = .ok (.getfield 26, 3) := by decide +kernel
theorem d_M_differences_151 : decode b_M_differences 151 = .ok (.iload 5, 2) := by decide +kernel
theorem d_M_differences_153 : decode b_M_differences 153 = .ok (.iaload, 1) := by decide +kernel
theorem d_M_differences_154 : decode b_M_differences 154 = .ok (.bipush 16, 2) := by decide +kernel
theorem d_M_differences_156 : decode b_M_differences 156 = .ok (.iand, 1) := by decide +kernel
theorem d_M_differences_157 : decode b_M_differences 157 = .ok (.ifCond .eq 7, 3) := by decide +kernel
theorem d_M_differences_160 : decode b_M_differences 160 = .ok (.iconst 1, 1) := by decide +kernel
theorem d_M_differences_161 : decode b_M_differences 161 = .ok (.goto 4, 3) := by decide +kernel
theorem d_M_differences_164 : decode b_M_differences 164 = .ok (.iconst 0, 1) := by decide +kernel
theorem d_M_differences_165 : decode b_M_differences 165 = .ok (.istore 8, 2) := by decide +kernel
theorem d_M_differences_167 : decode b_M_differences 167 = .ok (.iload 7, 2) := by decide +kernel
theorem d_M_differences_169 : decode b_M_differences 169 = .ok (.ifCond .eq 25, 3) := by decide +kernel
theorem d_M_differences_172 : decode b_M_differences 172 = .ok (.iload 8, 2) := by decide +kernel
theorem d_M_differences_174 : decode b_M_differences 174 = .ok (.ifCond .eq 23, 3) := by decide +kernel
theorem d_M_differences_177 : decode b_M_differences 177 = .ok (.aload_n 0, 1) := by decide +kernel
theorem d_M_differences_178 : decode b_M_differences 178 = .ok (.getfield 29, 3) := by decide +kernel
theorem d_M_differences_181 : decode b_M_differences 181 = .ok (.iload 5, 2) := by decide +kernel
theorem d_M_differences_183 : decode b_M_differences 183 = .ok (.iaload, 1) := by decide +kernel
theorem d_M_differences_184 : decode b_M_differences 184 = .ok (.aload_n 0, 1) := by decide +kernel
theorem d_M_differences_185 : decode b_M_differences 185 = .ok (.getfield 29, 3) := by decide +kernel
theorem d_M_differences_188 : decode b_M_differences 188 = .ok (.iload 6, 2) := by decide +kernel
theorem d_M_differences_190 : decode b_M_differences 190 = .ok (.iaload, 1) := by decide +kernel
theorem d_M_differences_191 : decode b_M_differences 191 = .ok (.if_icmp .eq 6, 3) := by decide +kernel
theorem d_M_differences_194 : decode b_M_differences 194 = .ok (.iinc 2 1, 3) := by decide +kernel
theorem d_M_differences_197 : decode b_M_differences 197 = .ok (.iinc 4 1, 3) := by decide +kernel
theorem d_M_differences_200 : decode b_M_differences 200 = .ok (.goto (-136), 3) := by decide +kernel
theorem d_M_differences_203 : decode b_M_differences 203 = .ok (.iconst 0, 1) := by decide +kernel
theorem d_M_differences_204 : decode b_M_differences 204 = .ok (.istore 4, 2) := by decide +kernel
theorem d_M_differences_206 : decode b_M_differences 206 = .ok (.iload 4, 2) := by decide +kernel
theorem d_M_differences_208 : decode b_M_differences 208 = .ok (.bipush 12, 2) := by decide +kernel
theorem d_M_differences_210 : decode b_M_differences 210 = .ok (.if_icmp .ge 74, 3) := by decide +kernel
theorem d_M_differences_213 : decode b_M_differences 213 = .ok (.bipush 12, 2) := by decide +kernel
theorem d_M_differences_215 : decode b_M_differences 215 = .ok (.iload_n 1, 1) := by decide +kernel
theorem d_M_differences_216 : decode b_M_differences 216 = .ok (.imul, 1) := by decide +kernel
theorem d_M_differences_217 : decode b_M_differences 217 = .ok (.iload 4, 2) := by decide +kernel
theorem d_M_differences_219 : decode b_M_differences 219 = .ok (.iadd, 1) := by decide +kernel
theorem d_M_differences_220 : decode b_M_differences 220 = .ok (.istore 5, 2) := by decide +kernel
theorem d_M_differences_222 : decode b_M_differences 222 = .ok (.bipush 12, 2) := by decide +kernel
theorem d_M_differences_224 : decode b_M_differences 224 = .ok (.iload_n 3, 1) := by decide +kernel
theorem d_M_differences_225 : decode b_M_differences 225 = .ok (.imul, 1) := by decide +kernel
theorem d_M_differences_226 : decode b_M_differences 226 = .ok (.iload 4, 2) := by decide +kernel
theorem d_M_differences_228 : decode b_M_differences 228 = .ok (.iadd, 1) := by decide +kernel
theorem d_M_differences_229 : decode b_M_differences 229 = .ok (.istore 6, 2) := by decide +kernel
theorem d_M_differences_231 : decode b_M_differences 231 = .ok (.aload_n 0, 1) := by decide +kernel
theorem d_M_differences_232 : decode b_M_differences 232 = .ok (.getfield 32, 3) := by decide +kernel
theorem d_M_differences_235 : decode b_M_differences 235 = .ok (.iload 5, 2) := by decide +kernel
theorem d_M_differences_237 : decode b_M_differences 237 = .ok (.iaload, 1) := by decide +kernel
theorem d_M_differences_238 : decode b_M_differences 238 = .ok (.aload_n 0, 1) := by decide +kernel
theorem d_M_differences_239 : decode b_M_differences 239 = .ok (.getfield 32, 3) := by decide +kernel
theorem d_M_differences_242 : decode b_M_differences 242 = .ok (.iload 6, 2) := by decide +kernel
theorem d_M_differences_244 : decode b_M_differences 244 = .ok (.iaload, 1) := by decide +kernel
theorem d_M_differences_245 : decode b_M_differences 245 = .ok (.if_icmp .ne 30, 3) := by decide +kernel
theorem d_M_differences_248 : decode b_M_differences 248 = .ok (.aload_n 0, 1) := by decide +kernel
theorem d_M_differences_249 : decode b_M_differences 249 = .ok (.getfield 32, 3) := by decide +kernel
theorem d_M_differences_252 : decode b_M_differences 252 = .ok (.iload 5, 2) := by decide +kernel
theorem d_M_differences_254 : decode b_M_differences 254 = .ok (.iaload, 1) := by decide +kernel
theorem d_M_differences_255 : decode b_M_differences 255 = .ok (.ifCond .lt 23, 3) := by decide +kernel
theorem d_M_differences_258 : decode b_M_differences 258 = .ok (.aload_n 0, 1) := by decide +kernel
theorem d_M_differences_259 : decode b_M_differences 259 = .ok (.getfield 35, 3) := by decide +kernel
theorem d_M_differences_262 : decode b_M_differences 262 = .ok (.iload 5, 2) := by decide +kernel
theorem d_M_differences_264 : decode b_M_differences 264 = .ok (.iaload, 1) := by decide +kernel
theorem d_M_differences_265 : decode b_M_differences 265 = .ok (.aload_n 0, 1) := by decide +kernel
theorem d_M_differences_266 : decode b_M_differences 266 = .ok (.getfield 35, 3) := by decide +kernel
theorem d_M_differences_269 : decode b_M_differences 269 = .ok (.iload 6, 2) := by decide +kernel
theorem d_M_differences_271 : decode b_M_differences 271 = .ok (.iaload, 1) := by decide +kernel
theorem d_M_differences_272 : decode b_M_differences 272 = .ok (.if_icmp .eq 6, 3) := by decide +kernel
theorem d_M_differences_275 : decode b_M_differences 275 = .ok (.iinc 2 1, 3) := by decide +kernel
theorem d_M_differences_278 : decode b_M_differences 278 = .ok (.iinc 4 1, 3) := by decide +kernel
theorem d_M_differences_281 : decode b_M_differences 281 = .ok (.goto (-75), 3) := by decide +kernel
theorem d_M_differences_284 : decode b_M_differences 284 = .ok (.iload_n 2, 1) := by decide +kernel
theorem d_M_differences_285 : decode b_M_differences 285 = .ok (.ireturn, 1) := by decide +kernel
theorem d_M_differ_0 : decode b_M_differ 0 = .ok (.iload_n 1, 1) := by decide +kernel
theorem d_M_differ_1 : decode b_M_differ 1 = .ok (.iconst 0, 1) := by decide +kernel
theorem d_M_differ_2 : decode b_M_differ 2 = .ok (.iconst 5, 1) := by decide +kernel
theorem d_M_differ_3 : decode b_M_differ 3 = .ok (.invokestatic 47, 3) := by decide +kernel
theorem d_M_differ_6 : decode b_M_differ 6 = .ok (.ifCond .ne 5, 3) := by decide +kernel
theorem d_M_differ_9 : decode b_M_differ 9 = .ok (.iconst (-1), 1) := by decide +kernel
theorem d_M_differ_10 : decode b_M_differ 10 = .ok (.ireturn, 1) := by decide +kernel
theorem d_M_differ_11 : decode b_M_differ 11 = .ok (.aload_n 0, 1) := by decide +kernel
theorem d_M_differ_12 : decode b_M_differ 12 = .ok (.getfield 7, 3) := by decide +kernel
theorem d_M_differ_15 : decode b_M_differ 15 = .ok (.iload_n 1, 1) := by decide +kernel
theorem d_M_differ_16 : decode b_M_differ 16 = .ok (.baload, 1) := by decide +kernel
theorem d_M_differ_17 : decode b_M_differ 17 = .ok (.istore_n 2, 1) := by decide +kernel
theorem d_M_differ_18 : decode b_M_differ 18 = .ok (.aload_n 0, 1) := by decide +kernel
theorem d_M_differ_19 : decode b_M_differ 19 = .ok (.getfield 7, 3) := by decide +kernel
theorem d_M_differ_22 : decode b_M_differ 22 = .ok (.bipush 6, 2) := by decide +kernel
theorem d_M_differ_24 : decode b_M_differ 24 = .ok (.iload_n 1, 1) := by decide +kernel
theorem d_M_differ_25 : decode b_M_differ 25 = .ok (.iadd, 1) := by decide +kernel
theorem d_M_differ_26 : decode b_M_differ 26 = .ok (.baload, 1) := by decide +kernel
theorem d_M_differ_27 : decode b_M_differ 27 = .ok (.istore_n 3, 1) := by decide +kernel
theorem d_M_differ_28 : decode b_M_differ 28 = .ok (.iload_n 2, 1) := by decide +kernel
theorem d_M_differ_29 : decode b_M_differ 29 = .ok (.ifCond .eq 7, 3) := by decide +kernel
theorem d_M_differ_32 : decode b_M_differ 32 = .ok (.iload_n 3, 1) := by decide +kernel
theorem d_M_differ_33 : decode b_M_differ 33 = .ok (.ifCond .ne 24, 3) := by decide +kernel
theorem d_M_differ_36 : decode b_M_differ 36 = .ok (.iload_n 2, 1) := by decide +kernel
theorem d_M_differ_37 : decode b_M_differ 37 = .ok (.ifCond .eq 8, 3) := by decide +kernel
theorem d_M_differ_40 : decode b_M_differ 40 = .ok (.bipush (-3), 2) := by decide +kernel
theorem d_M_differ_42 : decode b_M_differ 42 = .ok (.goto 14, 3) := by decide +kernel
theorem d_M_differ_45 : decode b_M_differ 45 = .ok (.iload_n 3, 1) := by decide +kernel
theorem d_M_differ_46 : decode b_M_differ 46 = .ok (.ifCond .eq 8, 3) := by decide +kernel
theorem d_M_differ_49 : decode b_M_differ 49 = .ok (.bipush (-4), 2) := by decide +kernel
theorem d_M_differ_51 : decode b_M_differ 51 = .ok (.goto 5, 3) := by decide +kernel
theorem d_M_differ_54 : decode b_M_differ 54 = .ok (.bipush (-2), 2) := by decide +kernel
theorem d_M_differ_56 : decode b_M_differ 56 = .ok (.ireturn, 1) := by decide +kernel
theorem d_M_differ_57 : decode b_M_differ 57 = .ok (.aload_n 0, 1) := by decide +kernel
theorem d_M_differ_58 : decode b_M_differ 58 = .ok (.iload_n 1, 1) := by decide +kernel
theorem d_M_differ_59 : decode b_M_differ 59 = .ok (.invokevirtual 121, 3) := by decide +kernel
theorem d_M_differ_62 : decode b_M_differ 62 = .ok (.ireturn, 1) := by decide +kernel
theorem d_M_under_0 : decode b_M_under 0 = .ok (.iload_n 1, 1) := by decide +kernel
theorem d_M_under_1 : decode b_M_under 1 = .ok (.iconst 0, 1) := by decide +kernel
theorem d_M_under_2 : decode b_M_under 2 = .ok (.iconst 1, 1) := by decide +kernel
theorem d_M_under_3 : decode b_M_under 3 = .ok (.invokestatic 47, 3) := by decide +kernel
theorem d_M_under_6 : decode b_M_under 6 = .ok (.ifCond .eq 21, 3) := by decide +kernel
theorem d_M_under_9 : decode b_M_under 9 = .ok (.iload_n 2, 1) := by decide +kernel
theorem d_M_under_10 : decode b_M_under 10 = .ok (.iconst 0, 1) := by decide +kernel
theorem d_M_under_11 : decode b_M_under 11 = .ok (.iconst 5, 1) := by decide +kernel
theorem d_M_under_12 : decode b_M_under 12 = .ok (.invokestatic 47, 3) := by decide +kernel
theorem d_M_under_15 : decode b_M_under 15 = .ok (.ifCond .eq 12, 3) := by decide +kernel
theorem d_M_under_18 : decode b_M_under 18 = .ok (.iload_n 3, 1) := by decide +kernel
theorem d_M_under_19 : decode b_M_under 19 = .ok (.iconst 0, 1) := by decide +kernel
theorem d_M_under_20 : decode b_M_under 20 = .ok (.iconst 5, 1) := by decide +kernel
theorem d_M_under_21 : decode b_M_under 21 = .ok (.invokestatic 47, 3) := by decide +kernel
theorem d_M_under_24 : decode b_M_under 24 = .ok (.ifCond .ne 5, 3) := by decide +kernel
theorem d_M_under_27 : decode b_M_under 27 = .ok (.iconst 0, 1) := by decide +kernel
theorem d_M_under_28 : decode b_M_under 28 = .ok (.ireturn, 1) := by decide +kernel
theorem d_M_under_29 : decode b_M_under 29 = .ok (.aload_n 0, 1) := by decide +kernel
theorem d_M_under_30 : decode b_M_under 30 = .ok (.getfield 7, 3) := by decide +kernel
theorem d_M_under_33 : decode b_M_under 33 = .ok (.bipush 6, 2) := by decide +kernel
theorem d_M_under_35 : decode b_M_under 35 = .ok (.iload_n 1, 1) := by decide +kernel
theorem d_M_under_36 : decode b_M_under 36 = .ok (.imul, 1) := by decide +kernel
theorem d_M_under_37 : decode b_M_under 37 = .ok (.iload_n 2, 1) := by decide +kernel
theorem d_M_under_38 : decode b_M_under 38 = .ok (.iadd, 1) := by decide +kernel
theorem d_M_under_39 : decode b_M_under 39 = .ok (.baload, 1) := by decide +kernel
theorem d_M_under_40 : decode b_M_under 40 = .ok (.ifCond .eq 31, 3) := by decide +kernel
theorem d_M_under_43 : decode b_M_under 43 = .ok (.aload_n 0, 1) := by decide +kernel
theorem d_M_under_44 : decode b_M_under 44 = .ok (.getfield 7, 3) := by decide +kernel
theorem d_M_under_47 : decode b_M_under 47 = .ok (.bipush 6, 2) := by decide +kernel
theorem d_M_under_49 : decode b_M_under 49 = .ok (.iload_n 1, 1) := by decide +kernel
theorem d_M_under_50 : decode b_M_under 50 = .ok (.imul, 1) := by decide +kernel
theorem d_M_under_51 : decode b_M_under 51 = .ok (.iload_n 3, 1) := by decide +kernel
theorem d_M_under_52 : decode b_M_under 52 = .ok (.iadd, 1) := by decide +kernel
theorem d_M_under_53 : decode b_M_under 53 = .ok (.baload, 1) := by decide +kernel
theorem d_M_under_54 : decode b_M_under 54 = .ok (.ifCond .eq 17, 3) := by decide +kernel
theorem d_M_under_57 : decode b_M_under 57 = .ok (.aload_n 0, 1) := by decide +kernel
theorem d_M_under_58 : decode b_M_under 58 = .ok (.iload_n 1, 1) := by decide +kernel
theorem d_M_under_59 : decode b_M_under 59 = .ok (.iload_n 2, 1) := by decide +kernel
theorem d_M_under_60 : decode b_M_under 60 = .ok (.iload_n 3, 1) := by decide +kernel
theorem d_M_under_61 : decode b_M_under 61 = .ok (.invokevirtual 66, 3) := by decide +kernel
theorem d_M_under_64 : decode b_M_under 64 = .ok (.ifCond .eq 7, 3) := by decide +kernel
theorem d_M_under_67 : decode b_M_under 67 = .ok (.iconst 1, 1) := by decide +kernel
theorem d_M_under_68 : decode b_M_under 68 = .ok (.goto 4, 3) := by decide +kernel
theorem d_M_under_71 : decode b_M_under 71 = .ok (.iconst 0, 1) := by decide +kernel
theorem d_M_under_72 : decode b_M_under 72 = .ok (.ireturn, 1) := by decide +kernel
theorem d_M_count_0 : decode b_M_count 0 = .ok (.iload_n 1, 1) := by decide +kernel
theorem d_M_count_1 : decode b_M_count 1 = .ok (.iconst 0, 1) := by decide +kernel
theorem d_M_count_2 : decode b_M_count 2 = .ok (.iconst 1, 1) := by decide +kernel
theorem d_M_count_3 : decode b_M_count 3 = .ok (.invokestatic 47, 3) := by decide +kernel
theorem d_M_count_6 : decode b_M_count 6 = .ok (.ifCond .eq 12, 3) := by decide +kernel
theorem d_M_count_9 : decode b_M_count 9 = .ok (.iload_n 2, 1) := by decide +kernel
theorem d_M_count_10 : decode b_M_count 10 = .ok (.iconst 0, 1) := by decide +kernel
theorem d_M_count_11 : decode b_M_count 11 = .ok (.iconst 3, 1) := by decide +kernel
theorem d_M_count_12 : decode b_M_count 12 = .ok (.invokestatic 47, 3) := by decide +kernel
theorem d_M_count_15 : decode b_M_count 15 = .ok (.ifCond .ne 5, 3) := by decide +kernel
theorem d_M_count_18 : decode b_M_count 18 = .ok (.iconst (-1), 1) := by decide +kernel
theorem d_M_count_19 : decode b_M_count 19 = .ok (.ireturn, 1) := by decide +kernel
theorem d_M_count_20 : decode b_M_count 20 = .ok (.iconst 0, 1) := by decide +kernel
theorem d_M_count_21 : decode b_M_count 21 = .ok (.istore_n 3, 1) := by decide +kernel
theorem d_M_count_22 : decode b_M_count 22 = .ok (.bipush 72, 2) := by decide +kernel
theorem d_M_count_24 : decode b_M_count 24 = .ok (.iload_n 1, 1) := by decide +kernel
theorem d_M_count_25 : decode b_M_count 25 = .ok (.imul, 1) := by decide +kernel
theorem d_M_count_26 : decode b_M_count 26 = .ok (.istore 4, 2) := by decide +kernel
theorem d_M_count_28 : decode b_M_count 28 = .ok (.iload 4, 2) := by decide +kernel
theorem d_M_count_30 : decode b_M_count 30 = .ok (.bipush 72, 2) := by decide +kernel
theorem d_M_count_32 : decode b_M_count 32 = .ok (.iload_n 1, 1) := by decide +kernel
theorem d_M_count_33 : decode b_M_count 33 = .ok (.imul, 1) := by decide +kernel
theorem d_M_count_34 : decode b_M_count 34 = .ok (.bipush 72, 2) := by decide +kernel
theorem d_M_count_36 : decode b_M_count 36 = .ok (.iadd, 1) := by decide +kernel
theorem d_M_count_37 : decode b_M_count 37 = .ok (.if_icmp .ge 82, 3) := by decide +kernel
theorem d_M_count_40 : decode b_M_count 40 = .ok (.iload_n 2, 1) := by decide +kernel
theorem d_M_count_41 : decode b_M_count 41 = .ok (.ifCond .ne 27, 3) := by decide +kernel
theorem d_M_count_44 : decode b_M_count 44 = .ok (.iload 4, 2) := by decide +kernel
theorem d_M_count_46 : decode b_M_count 46 = .ok (.bipush 12, 2) := by decide +kernel
theorem d_M_count_48 : decode b_M_count 48 = .ok (.irem, 1) := by decide +kernel
theorem d_M_count_49 : decode b_M_count 49 = .ok (.ifCond .ne 19, 3) := by decide +kernel
theorem d_M_count_52 : decode b_M_count 52 = .ok (.aload_n 0, 1) := by decide +kernel
theorem d_M_count_53 : decode b_M_count 53 = .ok (.getfield 7, 3) := by decide +kernel
theorem d_M_count_56 : decode b_M_count 56 = .ok (.iload 4, 2) := by decide +kernel
theorem d_M_count_58 : decode b_M_count 58 = .ok (.bipush 12, 2) := by decide +kernel
theorem d_M_count_60 : decode b_M_count 60 = .ok (.idiv, 1) := by decide +kernel
theorem d_M_count_61 : decode b_M_count 61 = .ok (.baload, 1) := by decide +kernel
theorem d_M_count_62 : decode b_M_count 62 = .ok (.ifCond .eq 6, 3) := by decide +kernel
theorem d_M_count_65 : decode b_M_count 65 = .ok (.iinc 3 1, 3) := by decide +kernel
end
section
theorem d_M_count_68 : decode b_M_count 68 = .ok (.iload_n 2, 1) := by decide +kernel
theorem d_M_count_69 : decode b_M_count 69 = .ok (.iconst 1, 1) := by decide +kernel
theorem d_M_count_70 : decode b_M_count 70 = .ok (.if_icmp .ne 25, 3) := by decide +kernel
theorem d_M_count_73 : decode b_M_count 73 = .ok (.iload 4, 2) := by decide +kernel
theorem d_M_count_75 : decode b_M_count 75 = .ok (.iconst 3, 1) := by decide +kernel
theorem d_M_count_76 : decode b_M_count 76 = .ok (.irem, 1) := by decide +kernel
theorem d_M_count_77 : decode b_M_count 77 = .ok (.ifCond .ne 18, 3) := by decide +kernel
theorem d_M_count_80 : decode b_M_count 80 = .ok (.aload_n 0, 1) := by decide +kernel
theorem d_M_count_81 : decode b_M_count 81 = .ok (.getfield 23, 3) := by decide +kernel
theorem d_M_count_84 : decode b_M_count 84 = .ok (.iload 4, 2) := by decide +kernel
theorem d_M_count_86 : decode b_M_count 86 = .ok (.iconst 3, 1) := by decide +kernel
theorem d_M_count_87 : decode b_M_count 87 = .ok (.idiv, 1) := by decide +kernel
theorem d_M_count_88 : decode b_M_count 88 = .ok (.iaload, 1) := by decide +kernel
theorem d_M_count_89 : decode b_M_count 89 = .ok (.ifCond .lt 6, 3) := by decide +kernel
theorem d_M_count_92 : decode b_M_count 92 = .ok (.iinc 3 1, 3) := by decide +kernel
theorem d_M_count_95 : decode b_M_count 95 = .ok (.iload_n 2, 1) := by decide +kernel
theorem d_M_count_96 : decode b_M_count 96 = .ok (.iconst 2, 1) := by decide +kernel
theorem d_M_count_97 : decode b_M_count 97 = .ok (.if_icmp .ne 16, 3) := by decide +kernel
theorem d_M_count_100 : decode b_M_count 100 = .ok (.aload_n 0, 1) := by decide +kernel
theorem d_M_count_101 : decode b_M_count 101 = .ok (.getfield 32, 3) := by decide +kernel
theorem d_M_count_104 : decode b_M_count 104 = .ok (.iload 4, 2) := by decide +kernel
theorem d_M_count_106 : decode b_M_count 106 = .ok (.iaload, 1) := by decide +kernel
theorem d_M_count_107 : decode b_M_count 107 = .ok (.ifCond .lt 6, 3) := by decide +kernel
theorem d_M_count_110 : decode b_M_count 110 = .ok (.iinc 3 1, 3) := by decide +kernel
theorem d_M_count_113 : decode b_M_count 113 = .ok (.iinc 4 1, 3) := by decide +kernel
theorem d_M_count_116 : decode b_M_count 116 = .ok (.goto (-88), 3) := by decide +kernel
theorem d_M_count_119 : decode b_M_count 119 = .ok (.iload_n 2, 1) := by decide +kernel
theorem d_M_count_120 : decode b_M_count 120 = .ok (.iconst 3, 1) := by decide +kernel
theorem d_M_count_121 : decode b_M_count 121 = .ok (.if_icmp .ne 10, 3) := by decide +kernel
theorem d_M_count_124 : decode b_M_count 124 = .ok (.aload_n 0, 1) := by decide +kernel
theorem d_M_count_125 : decode b_M_count 125 = .ok (.getfield 59, 3) := by decide +kernel
theorem d_M_count_128 : decode b_M_count 128 = .ok (.goto 4, 3) := by decide +kernel
theorem d_M_count_131 : decode b_M_count 131 = .ok (.iload_n 3, 1) := by decide +kernel
theorem d_M_count_132 : decode b_M_count 132 = .ok (.ireturn, 1) := by decide +kernel
theorem d_B_init_0 : decode b_B_init 0 = .ok (.aload_n 0, 1) := by decide +kernel
theorem d_B_init_1 : decode b_B_init 1 = .ok (.invokespecial 3, 3) := by decide +kernel
theorem d_B_init_4 : decode b_B_init 4 = .ok (.return_, 1) := by decide +kernel
theorem d_B_bind_0 : decode b_B_bind 0 = .ok (.aload_n 0, 1) := by decide +kernel
theorem d_B_bind_1 : decode b_B_bind 1 = .ok (.iconst 0, 1) := by decide +kernel
theorem d_B_bind_2 : decode b_B_bind 2 = .ok (.putfield 9, 3) := by decide +kernel
theorem d_B_bind_5 : decode b_B_bind 5 = .ok (.aload_n 0, 1) := by decide +kernel
theorem d_B_bind_6 : decode b_B_bind 6 = .ok (.aload_n 2, 1) := by decide +kernel
theorem d_B_bind_7 : decode b_B_bind 7 = .ok (.aload_n 1, 1) := by decide +kernel
theorem d_B_bind_8 : decode b_B_bind 8 = .ok (.getfield 15, 3) := by decide +kernel
theorem d_B_bind_11 : decode b_B_bind 11 = .ok (.invokevirtual 21, 3) := by decide +kernel
theorem d_B_bind_14 : decode b_B_bind 14 = .ok (.putfield 27, 3) := by decide +kernel
theorem d_B_bind_17 : decode b_B_bind 17 = .ok (.aload_n 2, 1) := by decide +kernel
theorem d_B_bind_18 : decode b_B_bind 18 = .ok (.aload_n 1, 1) := by decide +kernel
theorem d_B_bind_19 : decode b_B_bind 19 = .ok (.getfield 15, 3) := by decide +kernel
theorem d_B_bind_22 : decode b_B_bind 22 = .ok (.invokevirtual 30, 3) := by decide +kernel
theorem d_B_bind_25 : decode b_B_bind 25 = .ok (.ifCond .eq 14, 3) := by decide +kernel
theorem d_B_bind_28 : decode b_B_bind 28 = .ok (.aload_n 2, 1) := by decide +kernel
theorem d_B_bind_29 : decode b_B_bind 29 = .ok (.aload_n 1, 1) := by decide +kernel
theorem d_B_bind_30 : decode b_B_bind 30 = .ok (.getfield 15, 3) := by decide +kernel
theorem d_B_bind_33 : decode b_B_bind 33 = .ok (.invokevirtual 33, 3) := by decide +kernel
theorem d_B_bind_36 : decode b_B_bind 36 = .ok (.ifCond .eq 10, 3) := by decide +kernel
theorem d_B_bind_39 : decode b_B_bind 39 = .ok (.aload_n 0, 1) := by decide +kernel
theorem d_B_bind_40 : decode b_B_bind 40 = .ok (.bipush (-3), 2) := by decide +kernel
theorem d_B_bind_42 : decode b_B_bind 42 = .ok (.putfield 36, 3) := by decide +kernel
theorem d_B_bind_45 : decode b_B_bind 45 = .ok (.return_, 1) := by decide +kernel
theorem d_B_bind_46 : decode b_B_bind 46 = .ok (.aload_n 1, 1) := by decide +kernel
theorem d_B_bind_47 : decode b_B_bind 47 = .ok (.getfield 39, 3) := by decide +kernel
theorem d_B_bind_50 : decode b_B_bind 50 = .ok (.tableswitch 112 0 5 #[38, 38, 51, 51, 64, 88], 38) := by decide +kernel
theorem d_B_bind_88 : decode b_B_bind 88 = .ok (.aload_n 0, 1) := by decide +kernel
theorem d_B_bind_89 : decode b_B_bind 89 = .ok (.aload_n 0, 1) := by decide +kernel
theorem d_B_bind_90 : decode b_B_bind 90 = .ok (.aload_n 1, 1) := by decide +kernel
theorem d_B_bind_91 : decode b_B_bind 91 = .ok (.aload_n 2, 1) := by decide +kernel
theorem d_B_bind_92 : decode b_B_bind 92 = .ok (.invokevirtual 42, 3) := by decide +kernel
theorem d_B_bind_95 : decode b_B_bind 95 = .ok (.putfield 36, 3) := by decide +kernel
theorem d_B_bind_98 : decode b_B_bind 98 = .ok (.goto 74, 3) := by decide +kernel
theorem d_B_bind_101 : decode b_B_bind 101 = .ok (.aload_n 0, 1) := by decide +kernel
theorem d_B_bind_102 : decode b_B_bind 102 = .ok (.aload_n 0, 1) := by decide +kernel
theorem d_B_bind_103 : decode b_B_bind 103 = .ok (.aload_n 1, 1) := by decide +kernel
theorem d_B_bind_104 : decode b_B_bind 104 = .ok (.aload_n 2, 1) := by decide +kernel
theorem d_B_bind_105 : decode b_B_bind 105 = .ok (.invokevirtual 46, 3) := by decide +kernel
theorem d_B_bind_108 : decode b_B_bind 108 = .ok (.putfield 36, 3) := by decide +kernel
theorem d_B_bind_111 : decode b_B_bind 111 = .ok (.goto 61, 3) := by decide +kernel
theorem d_B_bind_114 : decode b_B_bind 114 = .ok (.aload_n 0, 1) := by decide +kernel
theorem d_B_bind_115 : decode b_B_bind 115 = .ok (.aload_n 2, 1) := by decide +kernel
theorem d_B_bind_116 : decode b_B_bind 116 = .ok (.aload_n 1, 1) := by decide +kernel
theorem d_B_bind_117 : decode b_B_bind 117 = .ok (.getfield 15, 3) := by decide +kernel
theorem d_B_bind_120 : decode b_B_bind 120 = .ok (.invokevirtual 49, 3) := by decide +kernel
theorem d_B_bind_123 : decode b_B_bind 123 = .ok (.ifCond .eq 8, 3) := by decide +kernel
theorem d_B_bind_126 : decode b_B_bind 126 = .ok (.bipush (-5), 2) := by decide +kernel
theorem d_B_bind_128 : decode b_B_bind 128 = .ok (.goto 4, 3) := by decide +kernel
theorem d_B_bind_131 : decode b_B_bind 131 = .ok (.iconst 0, 1) := by decide +kernel
theorem d_B_bind_132 : decode b_B_bind 132 = .ok (.putfield 36, 3) := by decide +kernel
theorem d_B_bind_135 : decode b_B_bind 135 = .ok (.goto 37, 3) := by decide +kernel
theorem d_B_bind_138 : decode b_B_bind 138 = .ok (.aload_n 0, 1) := by decide +kernel
theorem d_B_bind_139 : decode b_B_bind 139 = .ok (.aload_n 2, 1) := by decide +kernel
theorem d_B_bind_140 : decode b_B_bind 140 = .ok (.aload_n 1, 1) := by decide +kernel
theorem d_B_bind_141 : decode b_B_bind 141 = .ok (.getfield 15, 3) := by decide +kernel
theorem d_B_bind_144 : decode b_B_bind 144 = .ok (.invokevirtual 52, 3) := by decide +kernel
theorem d_B_bind_147 : decode b_B_bind 147 = .ok (.ifCond .eq 8, 3) := by decide +kernel
theorem d_B_bind_150 : decode b_B_bind 150 = .ok (.bipush (-5), 2) := by decide +kernel
theorem d_B_bind_152 : decode b_B_bind 152 = .ok (.goto 4, 3) := by decide +kernel
theorem d_B_bind_155 : decode b_B_bind 155 = .ok (.iconst 0, 1) := by decide +kernel
theorem d_B_bind_156 : decode b_B_bind 156 = .ok (.putfield 36, 3) := by decide +kernel
theorem d_B_bind_159 : decode b_B_bind 159 = .ok (.goto 13, 3) := by decide +kernel
theorem d_B_bind_162 : decode b_B_bind 162 = .ok (.aload_n 0, 1) := by decide +kernel
theorem d_B_bind_163 : decode b_B_bind 163 = .ok (.aload_n 0, 1) := by decide +kernel
theorem d_B_bind_164 : decode b_B_bind 164 = .ok (.aload_n 1, 1) := by decide +kernel
theorem d_B_bind_165 : decode b_B_bind 165 = .ok (.aload_n 2, 1) := by decide +kernel
theorem d_B_bind_166 : decode b_B_bind 166 = .ok (.invokevirtual 55, 3) := by decide +kernel
theorem d_B_bind_169 : decode b_B_bind 169 = .ok (.putfield 36, 3) := by decide +kernel
theorem d_B_bind_172 : decode b_B_bind 172 = .ok (.return_, 1) := by decide +kernel
theorem d_B_bindField_0 : decode b_B_bindField 0 = .ok (.aload_n 2, 1) := by decide +kernel
theorem d_B_bindField_1 : decode b_B_bindField 1 = .ok (.aload_n 1, 1) := by decide +kernel
theorem d_B_bindField_2 : decode b_B_bindField 2 = .ok (.getfield 15, 3) := by decide +kernel
theorem d_B_bindField_5 : decode b_B_bindField 5 = .ok (.aload_n 1, 1) := by decide +kernel
theorem d_B_bindField_6 : decode b_B_bindField 6 = .ok (.getfield 58, 3) := by decide +kernel
theorem d_B_bindField_9 : decode b_B_bindField 9 = .ok (.iconst (-1), 1) := by decide +kernel
theorem d_B_bindField_10 : decode b_B_bindField 10 = .ok (.invokevirtual 61, 3) := by decide +kernel
theorem d_B_bindField_13 : decode b_B_bindField 13 = .ok (.istore_n 3, 1) := by decide +kernel
theorem d_B_bindField_14 : decode b_B_bindField 14 = .ok (.iload_n 3, 1) := by decide +kernel
theorem d_B_bindField_15 : decode b_B_bindField 15 = .ok (.iconst (-1), 1) := by decide +kernel
theorem d_B_bindField_16 : decode b_B_bindField 16 = .ok (.if_icmp .eq 15, 3) := by decide +kernel
theorem d_B_bindField_19 : decode b_B_bindField 19 = .ok (.aload_n 2, 1) := by decide +kernel
theorem d_B_bindField_20 : decode b_B_bindField 20 = .ok (.getfield 65, 3) := by decide +kernel
theorem d_B_bindField_23 : decode b_B_bindField 23 = .ok (.iload_n 3, 1) := by decide +kernel
theorem d_B_bindField_24 : decode b_B_bindField 24 = .ok (.iaload, 1) := by decide +kernel
theorem d_B_bindField_25 : decode b_B_bindField 25 = .ok (.bipush 8, 2) := by decide +kernel
theorem d_B_bindField_27 : decode b_B_bindField 27 = .ok (.iand, 1) := by decide +kernel
theorem d_B_bindField_28 : decode b_B_bindField 28 = .ok (.ifCond .eq 6, 3) := by decide +kernel
theorem d_B_bindField_31 : decode b_B_bindField 31 = .ok (.bipush (-4), 2) := by decide +kernel
theorem d_B_bindField_33 : decode b_B_bindField 33 = .ok (.ireturn, 1) := by decide +kernel
theorem d_B_bindField_34 : decode b_B_bindField 34 = .ok (.aload_n 2, 1) := by decide +kernel
theorem d_B_bindField_35 : decode b_B_bindField 35 = .ok (.getfield 65, 3) := by decide +kernel
theorem d_B_bindField_38 : decode b_B_bindField 38 = .ok (.iload_n 3, 1) := by decide +kernel
theorem d_B_bindField_39 : decode b_B_bindField 39 = .ok (.iaload, 1) := by decide +kernel
theorem d_B_bindField_40 : decode b_B_bindField 40 = .ok (.istore 4, 2) := by decide +kernel
theorem d_B_bindField_42 : decode b_B_bindField 42 = .ok (.aload_n 1, 1) := by decide +kernel
theorem d_B_bindField_43 : decode b_B_bindField 43 = .ok (.getfield 39, 3) := by decide +kernel
theorem d_B_bindField_46 : decode b_B_bindField 46 = .ok (.iconst 1, 1) := by decide +kernel
theorem d_B_bindField_47 : decode b_B_bindField 47 = .ok (.if_icmp .ne 13, 3) := by decide +kernel
theorem d_B_bindField_50 : decode b_B_bindField 50 = .ok (.iload 4, 2) := by decide +kernel
theorem d_B_bindField_52 : decode b_B_bindField 52 = .ok (.iconst 4, 1) := by decide +kernel
theorem d_B_bindField_53 : decode b_B_bindField 53 = .ok (.iand, 1) := by decide +kernel
theorem d_B_bindField_54 : decode b_B_bindField 54 = .ok (.ifCond .eq 6, 3) := by decide +kernel
theorem d_B_bindField_57 : decode b_B_bindField 57 = .ok (.bipush (-5), 2) := by decide +kernel
theorem d_B_bindField_59 : decode b_B_bindField 59 = .ok (.ireturn, 1) := by decide +kernel
theorem d_B_bindField_60 : decode b_B_bindField 60 = .ok (.aload_n 0, 1) := by decide +kernel
theorem d_B_bindField_61 : decode b_B_bindField 61 = .ok (.iload 4, 2) := by decide +kernel
theorem d_B_bindField_63 : decode b_B_bindField 63 = .ok (.bipush 16, 2) := by decide +kernel
theorem d_B_bindField_65 : decode b_B_bindField 65 = .ok (.iand, 1) := by decide +kernel
theorem d_B_bindField_66 : decode b_B_bindField 66 = .ok (.ifCond .eq 7, 3) := by decide +kernel
theorem d_B_bindField_69 : decode b_B_bindField 69 = .ok (.iconst 1, 1) := by decide +kernel
theorem d_B_bindField_70 : decode b_B_bindField 70 = .ok (.goto 4, 3) := by decide +kernel
theorem d_B_bindField_73 : decode b_B_bindField 73 = .ok (.iconst 0, 1) := by decide +kernel
theorem d_B_bindField_74 : decode b_B_bindField 74 = .ok (.putfield 9, 3) := by decide +kernel
theorem d_B_bindField_77 : decode b_B_bindField 77 = .ok (.aload_n 0, 1) := by decide +kernel
theorem d_B_bindField_78 : decode b_B_bindField 78 = .ok (.aload_n 2, 1) := by decide +kernel
theorem d_B_bindField_79 : decode b_B_bindField 79 = .ok (.getfield 69, 3) := by decide +kernel
theorem d_B_bindField_82 : decode b_B_bindField 82 = .ok (.iload_n 3, 1) := by decide +kernel
theorem d_B_bindField_83 : decode b_B_bindField 83 = .ok (.iaload, 1) := by decide +kernel
theorem d_B_bindField_84 : decode b_B_bindField 84 = .ok (.putfield 72, 3) := by decide +kernel
theorem d_B_bindField_87 : decode b_B_bindField 87 = .ok (.aload_n 0, 1) := by decide +kernel
theorem d_B_bindField_88 : decode b_B_bindField 88 = .ok (.aload_n 2, 1) := by decide +kernel
theorem d_B_bindField_89 : decode b_B_bindField 89 = .ok (.getfield 74, 3) := by decide +kernel
theorem d_B_bindField_92 : decode b_B_bindField 92 = .ok (.iload_n 3, 1) := by decide +kernel
theorem d_B_bindField_93 : decode b_B_bindField 93 = .ok (.iaload, 1) := by decide +kernel
theorem d_B_bindField_94 : decode b_B_bindField 94 = .ok (.putfield 77, 3) := by decide +kernel
theorem d_B_bindField_97 : decode b_B_bindField 97 = .ok (.aload_n 0, 1) := by decide +kernel
theorem d_B_bindField_98 : decode b_B_bindField 98 = .ok (.iload 4, 2) := by decide +kernel
theorem d_B_bindField_100 : decode b_B_bindField 100 = .ok (.iconst 1, 1) := by decide +kernel
theorem d_B_bindField_101 : decode b_B_bindField 101 = .ok (.iand, 1) := by decide +kernel
theorem d_B_bindField_102 : decode b_B_bindField 102 = .ok (.ifCond .eq 7, 3) := by decide +kernel
theorem d_B_bindField_105 : decode b_B_bindField 105 = .ok (.iconst 1, 1) := by decide +kernel
theorem d_B_bindField_106 : decode b_B_bindField 106 = .ok (.goto 4, 3) := by decide +kernel
theorem d_B_bindField_109 : decode b_B_bindField 109 = .ok (.iconst 0, 1) := by decide +kernel
theorem d_B_bindField_110 : decode b_B_bindField 110 = .ok (.putfield 80, 3) := by decide +kernel
theorem d_B_bindField_113 : decode b_B_bindField 113 = .ok (.iconst 0, 1) := by decide +kernel
theorem d_B_bindField_114 : decode b_B_bindField 114 = .ok (.ireturn, 1) := by decide +kernel
theorem d_B_bindCall_0 : decode b_B_bindCall 0 = .ok (.aload_n 1, 1) := by decide +kernel
theorem d_B_bindCall_1 : decode b_B_bindCall 1 = .ok (.getfield 83, 3) := by decide +kernel
theorem d_B_bindCall_4 : decode b_B_bindCall 4 = .ok (.ifCond .ne 7, 3) := by decide +kernel
theorem d_B_bindCall_7 : decode b_B_bindCall 7 = .ok (.iconst 0, 1) := by decide +kernel
theorem d_B_bindCall_8 : decode b_B_bindCall 8 = .ok (.goto 4, 3) := by decide +kernel
theorem d_B_bindCall_11 : decode b_B_bindCall 11 = .ok (.iconst 3, 1) := by decide +kernel
theorem d_B_bindCall_12 : decode b_B_bindCall 12 = .ok (.istore_n 3, 1) := by decide +kernel
theorem d_B_bindCall_13 : decode b_B_bindCall 13 = .ok (.aload_n 1, 1) := by decide +kernel
theorem d_B_bindCall_14 : decode b_B_bindCall 14 = .ok (.getfield 83, 3) := by decide +kernel
theorem d_B_bindCall_17 : decode b_B_bindCall 17 = .ok (.istore 4, 2) := by decide +kernel
theorem d_B_bindCall_19 : decode b_B_bindCall 19 = .ok (.iload 4, 2) := by decide +kernel
theorem d_B_bindCall_21 : decode b_B_bindCall 21 = .ok (.iload_n 3, 1) := by decide +kernel
theorem d_B_bindCall_22 : decode b_B_bindCall 22 = .ok (.if_icmp .gt 54, 3) := by decide +kernel
theorem d_B_bindCall_25 : decode b_B_bindCall 25 = .ok (.aload_n 2, 1) := by decide +kernel
theorem d_B_bindCall_26 : decode b_B_bindCall 26 = .ok (.aload_n 1, 1) := by decide +kernel
theorem d_B_bindCall_27 : decode b_B_bindCall 27 = .ok (.getfield 15, 3) := by decide +kernel
theorem d_B_bindCall_30 : decode b_B_bindCall 30 = .ok (.aload_n 1, 1) := by decide +kernel
theorem d_B_bindCall_31 : decode b_B_bindCall 31 = .ok (.getfield 58, 3) := by decide +kernel
theorem d_B_bindCall_34 : decode b_B_bindCall 34 = .ok (.iload 4, 2) := by decide +kernel
theorem d_B_bindCall_36 : decode b_B_bindCall 36 = .ok (.iconst (-1), 1) := by decide +kernel
theorem d_B_bindCall_37 : decode b_B_bindCall 37 = .ok (.invokevirtual 86, 3) := by decide +kernel
theorem d_B_bindCall_40 : decode b_B_bindCall 40 = .ok (.istore 5, 2) := by decide +kernel
theorem d_B_bindCall_42 : decode b_B_bindCall 42 = .ok (.iload 5, 2) := by decide +kernel
theorem d_B_bindCall_44 : decode b_B_bindCall 44 = .ok (.iconst (-1), 1) := by decide +kernel
theorem d_B_bindCall_45 : decode b_B_bindCall 45 = .ok (.if_icmp .eq 25, 3) := by decide +kernel
theorem d_B_bindCall_48 : decode b_B_bindCall 48 = .ok (.aload_n 2, 1) := by decide +kernel
theorem d_B_bindCall_49 : decode b_B_bindCall 49 = .ok (.getfield 90, 3) := by decide +kernel
theorem d_B_bindCall_52 : decode b_B_bindCall 52 = .ok (.iload 5, 2) := by decide +kernel
theorem d_B_bindCall_54 : decode b_B_bindCall 54 = .ok (.iaload, 1) := by decide +kernel
theorem d_B_bindCall_55 : decode b_B_bindCall 55 = .ok (.bipush 8, 2) := by decide +kernel
theorem d_B_bindCall_57 : decode b_B_bindCall 57 = .ok (.iand, 1) := by decide +kernel
theorem d_B_bindCall_58 : decode b_B_bindCall 58 = .ok (.ifCond .ne 12, 3) := by decide +kernel
theorem d_B_bindCall_61 : decode b_B_bindCall 61 = .ok (.aload_n 0, 1) := by decide +kernel
theorem d_B_bindCall_62 : decode b_B_bindCall 62 = .ok (.aload_n 1, 1) := by decide +kernel
theorem d_B_bindCall_63 : decode b_B_bindCall 63 = .ok (.aload_n 2, 1) := by decide +kernel
theorem d_B_bindCall_64 : decode b_B_bindCall 64 = .ok (.iload 5, 2) := by decide +kernel
theorem d_B_bindCall_66 : decode b_B_bindCall 66 = .ok (.invokevirtual 93, 3) := by decide +kernel
theorem d_B_bindCall_69 : decode b_B_bindCall 69 = .ok (.ireturn, 1) := by decide +kernel
theorem d_B_bindCall_70 : decode b_B_bindCall 70 = .ok (.iinc 4 1, 3) := by decide +kernel
theorem d_B_bindCall_73 : decode b_B_bindCall 73 = .ok (.goto (-54), 3) := by decide +kernel
theorem d_B_bindCall_76 : decode b_B_bindCall 76 = .ok (.bipush (-4), 2) := by decide +kernel
theorem d_B_bindCall_78 : decode b_B_bindCall 78 = .ok (.ireturn, 1) := by decide +kernel
theorem d_B_bindMethod_0 : decode b_B_bindMethod 0 = .ok (.aload_n 0, 1) := by decide +kernel
theorem d_B_bindMethod_1 : decode b_B_bindMethod 1 = .ok (.aload_n 2, 1) := by decide +kernel
theorem d_B_bindMethod_2 : decode b_B_bindMethod 2 = .ok (.getfield 90, 3) := by decide +kernel
theorem d_B_bindMethod_5 : decode b_B_bindMethod 5 = .ok (.iload_n 3, 1) := by decide +kernel
theorem d_B_bindMethod_6 : decode b_B_bindMethod 6 = .ok (.iaload, 1) := by decide +kernel
theorem d_B_bindMethod_7 : decode b_B_bindMethod 7 = .ok (.iconst 1, 1) := by decide +kernel
theorem d_B_bindMethod_8 : decode b_B_bindMethod 8 = .ok (.iand, 1) := by decide +kernel
theorem d_B_bindMethod_9 : decode b_B_bindMethod 9 = .ok (.ifCond .eq 7, 3) := by decide +kernel
theorem d_B_bindMethod_12 : decode b_B_bindMethod 12 = .ok (.iconst 1, 1) := by decide +kernel
theorem d_B_bindMethod_13 : decode b_B_bindMethod 13 = .ok (.goto 4, 3) := by decide +kernel
theorem d_B_bindMethod_16 : decode b_B_bindMethod 16 = .ok (.iconst 0, 1) := by decide +kernel
theorem d_B_bindMethod_17 : decode b_B_bindMethod 17 = .ok (.putfield 80, 3) := by decide +kernel
theorem d_B_bindMethod_20 : decode b_B_bindMethod 20 = .ok (.aload_n 1, 1) := by decide +kernel
theorem d_B_bindMethod_21 : decode b_B_bindMethod 21 = .ok (.getfield 39, 3) := by decide +kernel
theorem d_B_bindMethod_24 : decode b_B_bindMethod 24 = .ok (.iconst 3, 1) := by decide +kernel
theorem d_B_bindMethod_25 : decode b_B_bindMethod 25 = .ok (.if_icmp .ne 13, 3) := by decide +kernel
theorem d_B_bindMethod_28 : decode b_B_bindMethod 28 = .ok (.aload_n 0, 1) := by decide +kernel
theorem d_B_bindMethod_29 : decode b_B_bindMethod 29 = .ok (.getfield 80, 3) := by decide +kernel
theorem d_B_bindMethod_32 : decode b_B_bindMethod 32 = .ok (.ifCond .ne 6, 3) := by decide +kernel
theorem d_B_bindMethod_35 : decode b_B_bindMethod 35 = .ok (.bipush (-5), 2) := by decide +kernel
theorem d_B_bindMethod_37 : decode b_B_bindMethod 37 = .ok (.ireturn, 1) := by decide +kernel
theorem d_B_bindMethod_38 : decode b_B_bindMethod 38 = .ok (.aload_n 0, 1) := by decide +kernel
theorem d_B_bindMethod_39 : decode b_B_bindMethod 39 = .ok (.iload_n 3, 1) := by decide +kernel
theorem d_B_bindMethod_40 : decode b_B_bindMethod 40 = .ok (.iconst 4, 1) := by decide +kernel
theorem d_B_bindMethod_41 : decode b_B_bindMethod 41 = .ok (.irem, 1) := by decide +kernel
theorem d_B_bindMethod_42 : decode b_B_bindMethod 42 = .ok (.putfield 97, 3) := by decide +kernel
theorem d_B_bindMethod_45 : decode b_B_bindMethod 45 = .ok (.aload_n 0, 1) := by decide +kernel
theorem d_B_bindMethod_46 : decode b_B_bindMethod 46 = .ok (.aload_n 2, 1) := by decide +kernel
theorem d_B_bindMethod_47 : decode b_B_bindMethod 47 = .ok (.getfield 100, 3) := by decide +kernel
theorem d_B_bindMethod_50 : decode b_B_bindMethod 50 = .ok (.iload_n 3, 1) := by decide +kernel
theorem d_B_bindMethod_51 : decode b_B_bindMethod 51 = .ok (.iaload, 1) := by decide +kernel
theorem d_B_bindMethod_52 : decode b_B_bindMethod 52 = .ok (.putfield 103, 3) := by decide +kernel
theorem d_B_bindMethod_55 : decode b_B_bindMethod 55 = .ok (.aload_n 0, 1) := by decide +kernel
theorem d_B_bindMethod_56 : decode b_B_bindMethod 56 = .ok (.iload_n 3, 1) := by decide +kernel
theorem d_B_bindMethod_57 : decode b_B_bindMethod 57 = .ok (.bipush 12, 2) := by decide +kernel
theorem d_B_bindMethod_59 : decode b_B_bindMethod 59 = .ok (.idiv, 1) := by decide +kernel
theorem d_B_bindMethod_60 : decode b_B_bindMethod 60 = .ok (.putfield 106, 3) := by decide +kernel
theorem d_B_bindMethod_63 : decode b_B_bindMethod 63 = .ok (.iconst 0, 1) := by decide +kernel
theorem d_B_bindMethod_64 : decode b_B_bindMethod 64 = .ok (.ireturn, 1) := by decide +kernel
theorem d_B_bindOverride_0 : decode b_B_bindOverride 0 = .ok (.aload_n 2, 1) := by decide +kernel
theorem d_B_bindOverride_1 : decode b_B_bindOverride 1 = .ok (.aload_n 1, 1) := by decide +kernel
theorem d_B_bindOverride_2 : decode b_B_bindOverride 2 = .ok (.getfield 15, 3) := by decide +kernel
theorem d_B_bindOverride_5 : decode b_B_bindOverride 5 = .ok (.invokevirtual 52, 3) := by decide +kernel
theorem d_B_bindOverride_8 : decode b_B_bindOverride 8 = .ok (.ifCond .eq 6, 3) := by decide +kernel
theorem d_B_bindOverride_11 : decode b_B_bindOverride 11 = .ok (.bipush (-5), 2) := by decide +kernel
theorem d_B_bindOverride_13 : decode b_B_bindOverride 13 = .ok (.ireturn, 1) := by decide +kernel
theorem d_B_bindOverride_14 : decode b_B_bindOverride 14 = .ok (.aload_n 2, 1) := by decide +kernel
theorem d_B_bindOverride_15 : decode b_B_bindOverride 15 = .ok (.aload_n 1, 1) := by decide +kernel
theorem d_B_bindOverride_16 : decode b_B_bindOverride 16 = .ok (.getfield 15, 3) := by decide +kernel
theorem d_B_bindOverride_19 : decode b_B_bindOverride 19 = .ok (.aload_n 1, 1) := by decide +kernel
theorem d_B_bindOverride_20 : decode b_B_bindOverride 20 = .ok (.getfield 58, 3) := by decide +kernel
theorem d_B_bindOverride_23 : decode b_B_bindOverride 23 = .ok (.aload_n 1, 1) := by decide +kernel
theorem d_B_bindOverride_24 : decode b_B_bindOverride 24 = .ok (.getfield 83, 3) := by decide +kernel
theorem d_B_bindOverride_27 : decode b_B_bindOverride 27 = .ok (.iconst (-1), 1) := by decide +kernel
theorem d_B_bindOverride_28 : decode b_B_bindOverride 28 = .ok (.invokevirtual 86, 3) := by decide +kernel
theorem d_B_bindOverride_31 : decode b_B_bindOverride 31 = .ok (.istore_n 3, 1) := by decide +kernel
theorem d_B_bindOverride_32 : decode b_B_bindOverride 32 = .ok (.iload_n 3, 1) := by decide +kernel
theorem d_B_bindOverride_33 : decode b_B_bindOverride 33 = .ok (.iconst (-1), 1) := by decide +kernel
theorem d_B_bindOverride_34 : decode b_B_bindOverride 34 = .ok (.if_icmp .eq 15, 3) := by decide +kernel
theorem d_B_bindOverride_37 : decode b_B_bindOverride 37 = .ok (.aload_n 2, 1) := by decide +kernel
theorem d_B_bindOverride_38 : decode b_B_bindOverride 38 = .ok (.getfield 90, 3) := by decide +kernel
theorem d_B_bindOverride_41 : decode b_B_bindOverride 41 = .ok (.iload_n 3, 1) := by decide +kernel
theorem d_B_bindOverride_42 : decode b_B_bindOverride 42 = .ok (.iaload, 1) := by decide +kernel
theorem d_B_bindOverride_43 : decode b_B_bindOverride 43 = .ok (.bipush 8, 2) := by decide +kernel
theorem d_B_bindOverride_45 : decode b_B_bindOverride 45 = .ok (.iand, 1) := by decide +kernel
theorem d_B_bindOverride_46 : decode b_B_bindOverride 46 = .ok (.ifCond .eq 6, 3) := by decide +kernel
theorem d_B_bindOverride_49 : decode b_B_bindOverride 49 = .ok (.bipush (-4), 2) := by decide +kernel
theorem d_B_bindOverride_51 : decode b_B_bindOverride 51 = .ok (.ireturn, 1) := by decide +kernel
theorem d_B_bindOverride_52 : decode b_B_bindOverride 52 = .ok (.aload_n 2, 1) := by decide +kernel
theorem d_B_bindOverride_53 : decode b_B_bindOverride 53 = .ok (.getfield 90, 3) := by decide +kernel
theorem d_B_bindOverride_56 : decode b_B_bindOverride 56 = .ok (.iload_n 3, 1) := by decide +kernel
theorem d_B_bindOverride_57 : decode b_B_bindOverride 57 = .ok (.iaload, 1) := by decide +kernel
theorem d_B_bindOverride_58 : decode b_B_bindOverride 58 = .ok (.iconst 5, 1) := by decide +kernel
theorem d_B_bindOverride_59 : decode b_B_bindOverride 59 = .ok (.iand, 1) := by decide +kernel
theorem d_B_bindOverride_60 : decode b_B_bindOverride 60 = .ok (.ifCond .eq 6, 3) := by decide +kernel
theorem d_B_bindOverride_63 : decode b_B_bindOverride 63 = .ok (.bipush (-5), 2) := by decide +kernel
theorem d_B_bindOverride_65 : decode b_B_bindOverride 65 = .ok (.ireturn, 1) := by decide +kernel
theorem d_B_bindOverride_66 : decode b_B_bindOverride 66 = .ok (.aload_n 0, 1) := by decide +kernel
theorem d_B_bindOverride_67 : decode b_B_bindOverride 67 = .ok (.aload_n 2, 1) := by decide +kernel
theorem d_B_bindOverride_68 : decode b_B_bindOverride 68 = .ok (.getfield 100, 3) := by decide +kernel
theorem d_B_bindOverride_71 : decode b_B_bindOverride 71 = .ok (.iload_n 3, 1) := by decide +kernel
theorem d_B_bindOverride_72 : decode b_B_bindOverride 72 = .ok (.iaload, 1) := by decide +kernel
theorem d_B_bindOverride_73 : decode b_B_bindOverride 73 = .ok (.putfield 103, 3) := by decide +kernel
theorem d_B_bindOverride_76 : decode b_B_bindOverride 76 = .ok (.iconst 0, 1) := by decide +kernel
theorem d_B_bindOverride_77 : decode b_B_bindOverride 77 = .ok (.ireturn, 1) := by decide +kernel
theorem d_B_isSameAs_0 : decode b_B_isSameAs 0 = .ok (.iload_n 2, 1) := by decide +kernel
theorem d_B_isSameAs_1 : decode b_B_isSameAs 1 = .ok (.tableswitch 133 0 6 #[43, 43, 49, 49, 133, 99, 116], 43) := by decide +kernel
theorem d_B_isSameAs_44 : decode b_B_isSameAs 44 = .ok (.aload_n 0, 1) := by decide +kernel
theorem d_B_isSameAs_45 : decode b_B_isSameAs 45 = .ok (.aload_n 1, 1) := by decide +kernel
theorem d_B_isSameAs_46 : decode b_B_isSameAs 46 = .ok (.invokevirtual 109, 3) := by decide +kernel
theorem d_B_isSameAs_49 : decode b_B_isSameAs 49 = .ok (.ireturn, 1) := by decide +kernel
theorem d_B_isSameAs_50 : decode b_B_isSameAs 50 = .ok (.aload_n 0, 1) := by decide +kernel
theorem d_B_isSameAs_51 : decode b_B_isSameAs 51 = .ok (.getfield 97, 3) := by decide +kernel
theorem d_B_isSameAs_54 : decode b_B_isSameAs 54 = .ok (.aload_n 1, 1) := by decide +kernel
theorem d_B_isSameAs_55 : decode b_B_isSameAs 55 = .ok (.getfield 97, 3) := by decide +kernel
theorem d_B_isSameAs_58 : decode b_B_isSameAs 58 = .ok (.if_icmp .ne 40, 3) := by decide +kernel
theorem d_B_isSameAs_61 : decode b_B_isSameAs 61 = .ok (.aload_n 0, 1) := by decide +kernel
theorem d_B_isSameAs_62 : decode b_B_isSameAs 62 = .ok (.getfield 103, 3) := by decide +kernel
theorem d_B_isSameAs_65 : decode b_B_isSameAs 65 = .ok (.aload_n 1, 1) := by decide +kernel
theorem d_B_isSameAs_66 : decode b_B_isSameAs 66 = .ok (.getfield 103, 3) := by decide +kernel
theorem d_B_isSameAs_69 : decode b_B_isSameAs 69 = .ok (.if_icmp .ne 29, 3) := by decide +kernel
theorem d_B_isSameAs_72 : decode b_B_isSameAs 72 = .ok (.aload_n 0, 1) := by decide +kernel
theorem d_B_isSameAs_73 : decode b_B_isSameAs 73 = .ok (.getfield 80, 3) := by decide +kernel
theorem d_B_isSameAs_76 : decode b_B_isSameAs 76 = .ok (.aload_n 1, 1) := by decide +kernel
theorem d_B_isSameAs_77 : decode b_B_isSameAs 77 = .ok (.getfield 80, 3) := by decide +kernel
theorem d_B_isSameAs_80 : decode b_B_isSameAs 80 = .ok (.if_icmp .ne 18, 3) := by decide +kernel
theorem d_B_isSameAs_83 : decode b_B_isSameAs 83 = .ok (.aload_n 0, 1) := by decide +kernel
theorem d_B_isSameAs_84 : decode b_B_isSameAs 84 = .ok (.getfield 27, 3) := by decide +kernel
theorem d_B_isSameAs_87 : decode b_B_isSameAs 87 = .ok (.aload_n 1, 1) := by decide +kernel
theorem d_B_isSameAs_88 : decode b_B_isSameAs 88 = .ok (.getfield 27, 3) := by decide +kernel
theorem d_B_isSameAs_91 : decode b_B_isSameAs 91 = .ok (.if_icmp .ne 7, 3) := by decide +kernel
theorem d_B_isSameAs_94 : decode b_B_isSameAs 94 = .ok (.iconst 1, 1) := by decide +kernel
theorem d_B_isSameAs_95 : decode b_B_isSameAs 95 = .ok (.goto 4, 3) := by decide +kernel
theorem d_B_isSameAs_98 : decode b_B_isSameAs 98 = .ok (.iconst 0, 1) := by decide +kernel
theorem d_B_isSameAs_99 : decode b_B_isSameAs 99 = .ok (.ireturn, 1) := by decide +kernel
theorem d_B_isSameAs_100 : decode b_B_isSameAs 100 = .ok (.aload_n 0, 1) := by decide +kernel
theorem d_B_isSameAs_101 : decode b_B_isSameAs 101 = .ok (.getfield 27, 3) := by decide +kernel
theorem d_B_isSameAs_104 : decode b_B_isSameAs 104 = .ok (.aload_n 1, 1) := by decide +kernel
theorem d_B_isSameAs_105 : decode b_B_isSameAs 105 = .ok (.getfield 27, 3) := by decide +kernel
theorem d_B_isSameAs_108 : decode b_B_isSameAs 108 = .ok (.if_icmp .ne 7, 3) := by decide +kernel
theorem d_B_isSameAs_111 : decode b_B_isSameAs 111 = .ok (.iconst 1, 1) := by decide +kernel
theorem d_B_isSameAs_112 : decode b_B_isSameAs 112 = .ok (.goto 4, 3) := by decide +kernel
theorem d_B_isSameAs_115 : decode b_B_isSameAs 115 = .ok (.iconst 0, 1) := by decide +kernel
theorem d_B_isSameAs_116 : decode b_B_isSameAs 116 = .ok (.ireturn, 1) := by decide +kernel
theorem d_B_isSameAs_117 : decode b_B_isSameAs 117 = .ok (.aload_n 0, 1) := by decide +kernel
theorem d_B_isSameAs_118 : decode b_B_isSameAs 118 = .ok (.getfield 103, 3) := by decide +kernel
theorem d_B_isSameAs_121 : decode b_B_isSameAs 121 = .ok (.aload_n 1, 1) := by decide +kernel
theorem d_B_isSameAs_122 : decode b_B_isSameAs 122 = .ok (.getfield 103, 3) := by decide +kernel
theorem d_B_isSameAs_125 : decode b_B_isSameAs 125 = .ok (.if_icmp .ne 7, 3) := by decide +kernel
theorem d_B_isSameAs_128 : decode b_B_isSameAs 128 = .ok (.iconst 1, 1) := by decide +kernel
theorem d_B_isSameAs_129 : decode b_B_isSameAs 129 = .ok (.goto 4, 3) := by decide +kernel
theorem d_B_isSameAs_132 : decode b_B_isSameAs 132 = .ok (.iconst 0, 1) := by decide +kernel
theorem d_B_isSameAs_133 : decode b_B_isSameAs 133 = .ok (.ireturn, 1) := by decide +kernel
theorem d_B_isSameAs_134 : decode b_B_isSameAs 134 = .ok (.iconst 1, 1) := by decide +kernel
theorem d_B_isSameAs_135 : decode b_B_isSameAs 135 = .ok (.ireturn, 1) := by decide +kernel
theorem d_B_isSameField_0 : decode b_B_isSameField 0 = .ok (.aload_n 0, 1) := by decide +kernel
theorem d_B_isSameField_1 : decode b_B_isSameField 1 = .ok (.getfield 9, 3) := by decide +kernel
theorem d_B_isSameField_4 : decode b_B_isSameField 4 = .ok (.aload_n 1, 1) := by decide +kernel
theorem d_B_isSameField_5 : decode b_B_isSameField 5 = .ok (.getfield 9, 3) := by decide +kernel
theorem d_B_isSameField_8 : decode b_B_isSameField 8 = .ok (.if_icmp .ne 14, 3) := by decide +kernel
theorem d_B_isSameField_11 : decode b_B_isSameField 11 = .ok (.aload_n 0, 1) := by decide +kernel
theorem d_B_isSameField_12 : decode b_B_isSameField 12 = .ok (.getfield 72, 3) := by decide +kernel
theorem d_B_isSameField_15 : decode b_B_isSameField 15 = .ok (.aload_n 1, 1) := by decide +kernel
theorem d_B_isSameField_16 : decode b_B_isSameField 16 = .ok (.getfield 72, 3) := by decide +kernel
theorem d_B_isSameField_19 : decode b_B_isSameField 19 = .ok (.if_icmp .eq 5, 3) := by decide +kernel
theorem d_B_isSameField_22 : decode b_B_isSameField 22 = .ok (.iconst 0, 1) := by decide +kernel
theorem d_B_isSameField_23 : decode b_B_isSameField 23 = .ok (.ireturn, 1) := by decide +kernel
theorem d_B_isSameField_24 : decode b_B_isSameField 24 = .ok (.aload_n 0, 1) := by decide +kernel
theorem d_B_isSameField_25 : decode b_B_isSameField 25 = .ok (.getfield 9, 3) := by decide +kernel
theorem d_B_isSameField_28 : decode b_B_isSameField 28 = .ok (.ifCond .eq 22, 3) := by decide +kernel
theorem d_B_isSameField_31 : decode b_B_isSameField 31 = .ok (.aload_n 0, 1) := by decide +kernel
theorem d_B_isSameField_32 : decode b_B_isSameField 32 = .ok (.getfield 77, 3) := by decide +kernel
theorem d_B_isSameField_35 : decode b_B_isSameField 35 = .ok (.aload_n 1, 1) := by decide +kernel
theorem d_B_isSameField_36 : decode b_B_isSameField 36 = .ok (.getfield 77, 3) := by decide +kernel
theorem d_B_isSameField_39 : decode b_B_isSameField 39 = .ok (.if_icmp .ne 7, 3) := by decide +kernel
theorem d_B_isSameField_42 : decode b_B_isSameField 42 = .ok (.iconst 1, 1) := by decide +kernel
theorem d_B_isSameField_43 : decode b_B_isSameField 43 = .ok (.goto 23, 3) := by decide +kernel
theorem d_B_isSameField_46 : decode b_B_isSameField 46 = .ok (.iconst 0, 1) := by decide +kernel
theorem d_B_isSameField_47 : decode b_B_isSameField 47 = .ok (.goto 19, 3) := by decide +kernel
theorem d_B_isSameField_50 : decode b_B_isSameField 50 = .ok (.aload_n 0, 1) := by decide +kernel
theorem d_B_isSameField_51 : decode b_B_isSameField 51 = .ok (.getfield 80, 3) := by decide +kernel
theorem d_B_isSameField_54 : decode b_B_isSameField 54 = .ok (.aload_n 1, 1) := by decide +kernel
theorem d_B_isSameField_55 : decode b_B_isSameField 55 = .ok (.getfield 80, 3) := by decide +kernel
theorem d_B_isSameField_58 : decode b_B_isSameField 58 = .ok (.if_icmp .ne 7, 3) := by decide +kernel
theorem d_B_isSameField_61 : decode b_B_isSameField 61 = .ok (.iconst 1, 1) := by decide +kernel
theorem d_B_isSameField_62 : decode b_B_isSameField 62 = .ok (.goto 4, 3) := by decide +kernel
theorem d_B_isSameField_65 : decode b_B_isSameField 65 = .ok (.iconst 0, 1) := by decide +kernel
theorem d_B_isSameField_66 : decode b_B_isSameField 66 = .ok (.ireturn, 1) := by decide +kernel
theorem d_B_fateWith_0 : decode b_B_fateWith 0 = .ok (.aload_n 0, 1) := by decide +kernel
theorem d_B_fateWith_1 : decode b_B_fateWith 1 = .ok (.getfield 9, 3) := by decide +kernel
theorem d_B_fateWith_4 : decode b_B_fateWith 4 = .ok (.ifCond .eq 18, 3) := by decide +kernel
theorem d_B_fateWith_7 : decode b_B_fateWith 7 = .ok (.aload_n 0, 1) := by decide +kernel
theorem d_B_fateWith_8 : decode b_B_fateWith 8 = .ok (.aload_n 1, 1) := by decide +kernel
theorem d_B_fateWith_9 : decode b_B_fateWith 9 = .ok (.aload_n 2, 1) := by decide +kernel
theorem d_B_fateWith_10 : decode b_B_fateWith 10 = .ok (.invokevirtual 113, 3) := by decide +kernel
theorem d_B_fateWith_13 : decode b_B_fateWith 13 = .ok (.ifCond .eq 7, 3) := by decide +kernel
theorem d_B_fateWith_16 : decode b_B_fateWith 16 = .ok (.iconst 0, 1) := by decide +kernel
theorem d_B_fateWith_17 : decode b_B_fateWith 17 = .ok (.goto 4, 3) := by decide +kernel
theorem d_B_fateWith_20 : decode b_B_fateWith 20 = .ok (.iconst 2, 1) := by decide +kernel
theorem d_B_fateWith_21 : decode b_B_fateWith 21 = .ok (.ireturn, 1) := by decide +kernel
theorem d_B_fateWith_22 : decode b_B_fateWith 22 = .ok (.aload_n 2, 1) := by decide +kernel
theorem d_B_fateWith_23 : decode b_B_fateWith 23 = .ok (.aload_n 1, 1) := by decide +kernel
theorem d_B_fateWith_24 : decode b_B_fateWith 24 = .ok (.getfield 15, 3) := by decide +kernel
theorem d_B_fateWith_27 : decode b_B_fateWith 27 = .ok (.invokevirtual 30, 3) := by decide +kernel
theorem d_B_fateWith_30 : decode b_B_fateWith 30 = .ok (.ifCond .ne 6, 3) := by decide +kernel
theorem d_B_fateWith_33 : decode b_B_fateWith 33 = .ok (.bipush (-6), 2) := by decide +kernel
theorem d_B_fateWith_35 : decode b_B_fateWith 35 = .ok (.ireturn, 1) := by decide +kernel
theorem d_B_fateWith_36 : decode b_B_fateWith 36 = .ok (.aload_n 2, 1) := by decide +kernel
theorem d_B_fateWith_37 : decode b_B_fateWith 37 = .ok (.aload_n 1, 1) := by decide +kernel
theorem d_B_fateWith_38 : decode b_B_fateWith 38 = .ok (.getfield 15, 3) := by decide +kernel
theorem d_B_fateWith_41 : decode b_B_fateWith 41 = .ok (.invokevirtual 33, 3) := by decide +kernel
theorem d_B_fateWith_44 : decode b_B_fateWith 44 = .ok (.ifCond .eq 6, 3) := by decide +kernel
theorem d_B_fateWith_47 : decode b_B_fateWith 47 = .ok (.bipush (-8), 2) := by decide +kernel
theorem d_B_fateWith_49 : decode b_B_fateWith 49 = .ok (.ireturn, 1) := by decide +kernel
theorem d_B_fateWith_50 : decode b_B_fateWith 50 = .ok (.aload_n 1, 1) := by decide +kernel
theorem d_B_fateWith_51 : decode b_B_fateWith 51 = .ok (.getfield 39, 3) := by decide +kernel
theorem d_B_fateWith_54 : decode b_B_fateWith 54 = .ok (.tableswitch 86 0 5 #[38, 38, 45, 45, 52, 70], 38) := by decide +kernel
theorem d_B_fateWith_92 : decode b_B_fateWith 92 = .ok (.aload_n 0, 1) := by decide +kernel
theorem d_B_fateWith_93 : decode b_B_fateWith 93 = .ok (.aload_n 1, 1) := by decide +kernel
theorem d_B_fateWith_94 : decode b_B_fateWith 94 = .ok (.aload_n 2, 1) := by decide +kernel
theorem d_B_fateWith_95 : decode b_B_fateWith 95 = .ok (.invokevirtual 117, 3) := by decide +kernel
theorem d_B_fateWith_98 : decode b_B_fateWith 98 = .ok (.ireturn, 1) := by decide +kernel
theorem d_B_fateWith_99 : decode b_B_fateWith 99 = .ok (.aload_n 0, 1) := by decide +kernel
theorem d_B_fateWith_100 : decode b_B_fateWith 100 = .ok (.aload_n 1, 1) := by decide +kernel
theorem d_B_fateWith_101 : decode b_B_fateWith 101 = .ok (.aload_n 2, 1) := by decide +kernel
theorem d_B_fateWith_102 : decode b_B_fateWith 102 = .ok (.invokevirtual 120, 3) := by decide +kernel
theorem d_B_fateWith_105 : decode b_B_fateWith 105 = .ok (.ireturn, 1) := by decide +kernel
theorem d_B_fateWith_106 : decode b_B_fateWith 106 = .ok (.aload_n 2, 1) := by decide +kernel
theorem d_B_fateWith_107 : decode b_B_fateWith 107 = .ok (.aload_n 1, 1) := by decide +kernel
theorem d_B_fateWith_108 : decode b_B_fateWith 108 = .ok (.getfield 15, 3) := by decide +kernel
theorem d_B_fateWith_111 : decode b_B_fateWith 111 = .ok (.invokevirtual 49, 3) := by decide +kernel
theorem d_B_fateWith_114 : decode b_B_fateWith 114 = .ok (.ifCond .eq 8, 3) := by decide +kernel
theorem d_B_fateWith_117 : decode b_B_fateWith 117 = .ok (.bipush (-9), 2) := by decide +kernel
theorem d_B_fateWith_119 : decode b_B_fateWith 119 = .ok (.goto 4, 3) := by decide +kernel
theorem d_B_fateWith_122 : decode b_B_fateWith 122 = .ok (.iconst 0, 1) := by decide +kernel
theorem d_B_fateWith_123 : decode b_B_fateWith 123 = .ok (.ireturn, 1) := by decide +kernel
theorem d_B_fateWith_124 : decode b_B_fateWith 124 = .ok (.aload_n 0, 1) := by decide +kernel
theorem d_B_fateWith_125 : decode b_B_fateWith 125 = .ok (.aload_n 1, 1) := by decide +kernel
theorem d_B_fateWith_126 : decode b_B_fateWith 126 = .ok (.aload_n 2, 1) := by decide +kernel
theorem d_B_fateWith_127 : decode b_B_fateWith 127 = .ok (.invokevirtual 123, 3) := by decide +kernel
theorem d_B_fateWith_130 : decode b_B_fateWith 130 = .ok (.ifCond .eq 8, 3) := by decide +kernel
theorem d_B_fateWith_133 : decode b_B_fateWith 133 = .ok (.bipush (-9), 2) := by decide +kernel
theorem d_B_fateWith_135 : decode b_B_fateWith 135 = .ok (.goto 4, 3) := by decide +kernel
theorem d_B_fateWith_138 : decode b_B_fateWith 138 = .ok (.iconst 0, 1) := by decide +kernel
theorem d_B_fateWith_139 : decode b_B_fateWith 139 = .ok (.ireturn, 1) := by decide +kernel
theorem d_B_fateWith_140 : decode b_B_fateWith 140 = .ok (.aload_n 0, 1) := by decide +kernel
theorem d_B_fateWith_141 : decode b_B_fateWith 141 = .ok (.aload_n 1, 1) := by decide +kernel
theorem d_B_fateWith_142 : decode b_B_fateWith 142 = .ok (.aload_n 2, 1) := by decide +kernel
theorem d_B_fateWith_143 : decode b_B_fateWith 143 = .ok (.invokevirtual 126, 3) := by decide +kernel
theorem d_B_fateWith_146 : decode b_B_fateWith 146 = .ok (.ireturn, 1) := by decide +kernel
theorem d_B_isStillValue_0 : decode b_B_isStillValue 0 = .ok (.aload_n 2, 1) := by decide +kernel
theorem d_B_isStillValue_1 : decode b_B_isStillValue 1 = .ok (.aload_n 1, 1) := by decide +kernel
theorem d_B_isStillValue_2 : decode b_B_isStillValue 2 = .ok (.getfield 15, 3) := by decide +kernel
theorem d_B_isStillValue_5 : decode b_B_isStillValue 5 = .ok (.invokevirtual 30, 3) := by decide +kernel
theorem d_B_isStillValue_8 : decode b_B_isStillValue 8 = .ok (.ifCond .ne 5, 3) := by decide +kernel
theorem d_B_isStillValue_11 : decode b_B_isStillValue 11 = .ok (.iconst 0, 1) := by decide +kernel
theorem d_B_isStillValue_12 : decode b_B_isStillValue 12 = .ok (.ireturn, 1) := by decide +kernel
theorem d_B_isStillValue_13 : decode b_B_isStillValue 13 = .ok (.aload_n 2, 1) := by decide +kernel
theorem d_B_isStillValue_14 : decode b_B_isStillValue 14 = .ok (.aload_n 1, 1) := by decide +kernel
theorem d_B_isStillValue_15 : decode b_B_isStillValue 15 = .ok (.getfield 15, 3) := by decide +kernel
theorem d_B_isStillValue_18 : decode b_B_isStillValue 18 = .ok (.aload_n 1, 1) := by decide +kernel
theorem d_B_isStillValue_19 : decode b_B_isStillValue 19 = .ok (.getfield 58, 3) := by decide +kernel
theorem d_B_isStillValue_22 : decode b_B_isStillValue 22 = .ok (.iconst (-1), 1) := by decide +kernel
theorem d_B_isStillValue_23 : decode b_B_isStillValue 23 = .ok (.invokevirtual 61, 3) := by decide +kernel
theorem d_B_isStillValue_26 : decode b_B_isStillValue 26 = .ok (.istore_n 3, 1) := by decide +kernel
theorem d_B_isStillValue_27 : decode b_B_isStillValue 27 = .ok (.iload_n 3, 1) := by decide +kernel
theorem d_B_isStillValue_28 : decode b_B_isStillValue 28 = .ok (.iconst (-1), 1) := by decide +kernel
theorem d_B_isStillValue_29 : decode b_B_isStillValue 29 = .ok (.if_icmp .eq 15, 3) := by decide +kernel
theorem d_B_isStillValue_32 : decode b_B_isStillValue 32 = .ok (.aload_n 2, 1) := by decide +kernel
theorem d_B_isStillValue_33 : decode b_B_isStillValue 33 = .ok (.getfield 65, 3) := by decide +kernel
theorem d_B_isStillValue_36 : decode b_B_isStillValue 36 = .ok (.iload_n 3, 1) := by decide +kernel
theorem d_B_isStillValue_37 : decode b_B_isStillValue 37 = .ok (.iaload, 1) := by decide +kernel
theorem d_B_isStillValue_38 : decode b_B_isStillValue 38 = .ok (.bipush 16, 2) := by decide +kernel
theorem d_B_isStillValue_40 : decode b_B_isStillValue 40 = .ok (.iand, 1) := by decide +kernel
theorem d_B_isStillValue_41 : decode b_B_isStillValue 41 = .ok (.ifCond .ne 5, 3) := by decide +kernel
theorem d_B_isStillValue_44 : decode b_B_isStillValue 44 = .ok (.iconst 0, 1) := by decide +kernel
theorem d_B_isStillValue_45 : decode b_B_isStillValue 45 = .ok (.ireturn, 1) := by decide +kernel
theorem d_B_isStillValue_46 : decode b_B_isStillValue 46 = .ok (.aload_n 2, 1) := by decide +kernel
theorem d_B_isStillValue_47 : decode b_B_isStillValue 47 = .ok (.getfield 69, 3) := by decide +kernel
theorem d_B_isStillValue_50 : decode b_B_isStillValue 50 = .ok (.iload_n 3, 1) := by decide +kernel
theorem d_B_isStillValue_51 : decode b_B_isStillValue 51 = .ok (.iaload, 1) := by decide +kernel
theorem d_B_isStillValue_52 : decode b_B_isStillValue 52 = .ok (.aload_n 0, 1) := by decide +kernel
theorem d_B_isStillValue_53 : decode b_B_isStillValue 53 = .ok (.getfield 72, 3) := by decide +kernel
theorem d_B_isStillValue_56 : decode b_B_isStillValue 56 = .ok (.if_icmp .ne 20, 3) := by decide +kernel
theorem d_B_isStillValue_59 : decode b_B_isStillValue 59 = .ok (.aload_n 2, 1) := by decide +kernel
theorem d_B_isStillValue_60 : decode b_B_isStillValue 60 = .ok (.getfield 74, 3) := by decide +kernel
theorem d_B_isStillValue_63 : decode b_B_isStillValue 63 = .ok (.iload_n 3, 1) := by decide +kernel
theorem d_B_isStillValue_64 : decode b_B_isStillValue 64 = .ok (.iaload, 1) := by decide +kernel
theorem d_B_isStillValue_65 : decode b_B_isStillValue 65 = .ok (.aload_n 0, 1) := by decide +kernel
theorem d_B_isStillValue_66 : decode b_B_isStillValue 66 = .ok (.getfield 77, 3) := by decide +kernel
theorem d_B_isStillValue_69 : decode b_B_isStillValue 69 = .ok (.if_icmp .ne 7, 3) := by decide +kernel
theorem d_B_isStillValue_72 : decode b_B_isStillValue 72 = .ok (.iconst 1, 1) := by decide +kernel
theorem d_B_isStillValue_73 : decode b_B_isStillValue 73 = .ok (.goto 4, 3) := by decide +kernel
theorem d_B_isStillValue_76 : decode b_B_isStillValue 76 = .ok (.iconst 0, 1) := by decide +kernel
theorem d_B_isStillValue_77 : decode b_B_isStillValue 77 = .ok (.ireturn, 1) := by decide +kernel
theorem d_B_fateOfField_0 : decode b_B_fateOfField 0 = .ok (.aload_n 2, 1) := by decide +kernel
theorem d_B_fateOfField_1 : decode b_B_fateOfField 1 = .ok (.aload_n 1, 1) := by decide +kernel
theorem d_B_fateOfField_2 : decode b_B_fateOfField 2 = .ok (.getfield 15, 3) := by decide +kernel
theorem d_B_fateOfField_5 : decode b_B_fateOfField 5 = .ok (.aload_n 1, 1) := by decide +kernel
theorem d_B_fateOfField_6 : decode b_B_fateOfField 6 = .ok (.getfield 58, 3) := by decide +kernel
theorem d_B_fateOfField_9 : decode b_B_fateOfField 9 = .ok (.aload_n 0, 1) := by decide +kernel
theorem d_B_fateOfField_10 : decode b_B_fateOfField 10 = .ok (.getfield 72, 3) := by decide +kernel
theorem d_B_fateOfField_13 : decode b_B_fateOfField 13 = .ok (.invokevirtual 61, 3) := by decide +kernel
theorem d_B_fateOfField_16 : decode b_B_fateOfField 16 = .ok (.istore_n 3, 1) := by decide +kernel
theorem d_B_fateOfField_17 : decode b_B_fateOfField 17 = .ok (.iload_n 3, 1) := by decide +kernel
theorem d_B_fateOfField_18 : decode b_B_fateOfField 18 = .ok (.iconst (-1), 1) := by decide +kernel
theorem d_B_fateOfField_19 : decode b_B_fateOfField 19 = .ok (.if_icmp .ne 6, 3) := by decide +kernel
theorem d_B_fateOfField_22 : decode b_B_fateOfField 22 = .ok (.bipush (-7), 2) := by decide +kernel
theorem d_B_fateOfField_24 : decode b_B_fateOfField 24 = .ok (.ireturn, 1) := by decide +kernel
theorem d_B_fateOfField_25 : decode b_B_fateOfField 25 = .ok (.aload_n 2, 1) := by decide +kernel
theorem d_B_fateOfField_26 : decode b_B_fateOfField 26 = .ok (.getfield 65, 3) := by decide +kernel
theorem d_B_fateOfField_29 : decode b_B_fateOfField 29 = .ok (.iload_n 3, 1) := by decide +kernel
theorem d_B_fateOfField_30 : decode b_B_fateOfField 30 = .ok (.iaload, 1) := by decide +kernel
theorem d_B_fateOfField_31 : decode b_B_fateOfField 31 = .ok (.istore 4, 2) := by decide +kernel
theorem d_B_fateOfField_33 : decode b_B_fateOfField 33 = .ok (.iload 4, 2) := by decide +kernel
theorem d_B_fateOfField_35 : decode b_B_fateOfField 35 = .ok (.bipush 8, 2) := by decide +kernel
theorem d_B_fateOfField_37 : decode b_B_fateOfField 37 = .ok (.iand, 1) := by decide +kernel
theorem d_B_fateOfField_38 : decode b_B_fateOfField 38 = .ok (.ifCond .ne 18, 3) := by decide +kernel
theorem d_B_fateOfField_41 : decode b_B_fateOfField 41 = .ok (.aload_n 1, 1) := by decide +kernel
theorem d_B_fateOfField_42 : decode b_B_fateOfField 42 = .ok (.getfield 39, 3) := by decide +kernel
theorem d_B_fateOfField_45 : decode b_B_fateOfField 45 = .ok (.iconst 1, 1) := by decide +kernel
theorem d_B_fateOfField_46 : decode b_B_fateOfField 46 = .ok (.if_icmp .ne 13, 3) := by decide +kernel
theorem d_B_fateOfField_49 : decode b_B_fateOfField 49 = .ok (.iload 4, 2) := by decide +kernel
theorem d_B_fateOfField_51 : decode b_B_fateOfField 51 = .ok (.iconst 4, 1) := by decide +kernel
theorem d_B_fateOfField_52 : decode b_B_fateOfField 52 = .ok (.iand, 1) := by decide +kernel
end
section
theorem d_B_fateOfField_53 : decode b_B_fateOfField 53 = .ok (.ifCond .eq 6, 3) := by decide +kernel
theorem d_B_fateOfField_56 : decode b_B_fateOfField 56 = .ok (.bipush (-8), 2) := by decide +kernel
theorem d_B_fateOfField_58 : decode b_B_fateOfField 58 = .ok (.ireturn, 1) := by decide +kernel
theorem d_B_fateOfField_59 : decode b_B_fateOfField 59 = .ok (.iload 4, 2) := by decide +kernel
theorem d_B_fateOfField_61 : decode b_B_fateOfField 61 = .ok (.iconst 1, 1) := by decide +kernel
theorem d_B_fateOfField_62 : decode b_B_fateOfField 62 = .ok (.iand, 1) := by decide +kernel
theorem d_B_fateOfField_63 : decode b_B_fateOfField 63 = .ok (.ifCond .eq 7, 3) := by decide +kernel
theorem d_B_fateOfField_66 : decode b_B_fateOfField 66 = .ok (.iconst 1, 1) := by decide +kernel
theorem d_B_fateOfField_67 : decode b_B_fateOfField 67 = .ok (.goto 4, 3) := by decide +kernel
theorem d_B_fateOfField_70 : decode b_B_fateOfField 70 = .ok (.iconst 0, 1) := by decide +kernel
theorem d_B_fateOfField_71 : decode b_B_fateOfField 71 = .ok (.aload_n 0, 1) := by decide +kernel
theorem d_B_fateOfField_72 : decode b_B_fateOfField 72 = .ok (.getfield 80, 3) := by decide +kernel
theorem d_B_fateOfField_75 : decode b_B_fateOfField 75 = .ok (.if_icmp .ne 7, 3) := by decide +kernel
theorem d_B_fateOfField_78 : decode b_B_fateOfField 78 = .ok (.iconst 0, 1) := by decide +kernel
theorem d_B_fateOfField_79 : decode b_B_fateOfField 79 = .ok (.goto 5, 3) := by decide +kernel
theorem d_B_fateOfField_82 : decode b_B_fateOfField 82 = .ok (.bipush (-9), 2) := by decide +kernel
theorem d_B_fateOfField_84 : decode b_B_fateOfField 84 = .ok (.ireturn, 1) := by decide +kernel
theorem d_B_fateOfCall_0 : decode b_B_fateOfCall 0 = .ok (.aload_n 2, 1) := by decide +kernel
theorem d_B_fateOfCall_1 : decode b_B_fateOfCall 1 = .ok (.aload_n 1, 1) := by decide +kernel
theorem d_B_fateOfCall_2 : decode b_B_fateOfCall 2 = .ok (.getfield 15, 3) := by decide +kernel
theorem d_B_fateOfCall_5 : decode b_B_fateOfCall 5 = .ok (.invokevirtual 21, 3) := by decide +kernel
theorem d_B_fateOfCall_8 : decode b_B_fateOfCall 8 = .ok (.aload_n 0, 1) := by decide +kernel
theorem d_B_fateOfCall_9 : decode b_B_fateOfCall 9 = .ok (.getfield 27, 3) := by decide +kernel
theorem d_B_fateOfCall_12 : decode b_B_fateOfCall 12 = .ok (.if_icmp .eq 6, 3) := by decide +kernel
theorem d_B_fateOfCall_15 : decode b_B_fateOfCall 15 = .ok (.bipush (-9), 2) := by decide +kernel
theorem d_B_fateOfCall_17 : decode b_B_fateOfCall 17 = .ok (.ireturn, 1) := by decide +kernel
theorem d_B_fateOfCall_18 : decode b_B_fateOfCall 18 = .ok (.aload_n 2, 1) := by decide +kernel
theorem d_B_fateOfCall_19 : decode b_B_fateOfCall 19 = .ok (.aload_n 1, 1) := by decide +kernel
theorem d_B_fateOfCall_20 : decode b_B_fateOfCall 20 = .ok (.getfield 15, 3) := by decide +kernel
theorem d_B_fateOfCall_23 : decode b_B_fateOfCall 23 = .ok (.aload_n 1, 1) := by decide +kernel
theorem d_B_fateOfCall_24 : decode b_B_fateOfCall 24 = .ok (.getfield 58, 3) := by decide +kernel
theorem d_B_fateOfCall_27 : decode b_B_fateOfCall 27 = .ok (.aload_n 0, 1) := by decide +kernel
theorem d_B_fateOfCall_28 : decode b_B_fateOfCall 28 = .ok (.getfield 97, 3) := by decide +kernel
theorem d_B_fateOfCall_31 : decode b_B_fateOfCall 31 = .ok (.aload_n 0, 1) := by decide +kernel
theorem d_B_fateOfCall_32 : decode b_B_fateOfCall 32 = .ok (.getfield 103, 3) := by decide +kernel
theorem d_B_fateOfCall_35 : decode b_B_fateOfCall 35 = .ok (.invokevirtual 86, 3) := by decide +kernel
theorem d_B_fateOfCall_38 : decode b_B_fateOfCall 38 = .ok (.istore_n 3, 1) := by decide +kernel
theorem d_B_fateOfCall_39 : decode b_B_fateOfCall 39 = .ok (.iload_n 3, 1) := by decide +kernel
theorem d_B_fateOfCall_40 : decode b_B_fateOfCall 40 = .ok (.iconst (-1), 1) := by decide +kernel
theorem d_B_fateOfCall_41 : decode b_B_fateOfCall 41 = .ok (.if_icmp .ne 6, 3) := by decide +kernel
theorem d_B_fateOfCall_44 : decode b_B_fateOfCall 44 = .ok (.bipush (-7), 2) := by decide +kernel
theorem d_B_fateOfCall_46 : decode b_B_fateOfCall 46 = .ok (.ireturn, 1) := by decide +kernel
theorem d_B_fateOfCall_47 : decode b_B_fateOfCall 47 = .ok (.aload_n 2, 1) := by decide +kernel
theorem d_B_fateOfCall_48 : decode b_B_fateOfCall 48 = .ok (.getfield 90, 3) := by decide +kernel
theorem d_B_fateOfCall_51 : decode b_B_fateOfCall 51 = .ok (.iload_n 3, 1) := by decide +kernel
theorem d_B_fateOfCall_52 : decode b_B_fateOfCall 52 = .ok (.iaload, 1) := by decide +kernel
theorem d_B_fateOfCall_53 : decode b_B_fateOfCall 53 = .ok (.istore 4, 2) := by decide +kernel
theorem d_B_fateOfCall_55 : decode b_B_fateOfCall 55 = .ok (.iload 4, 2) := by decide +kernel
theorem d_B_fateOfCall_57 : decode b_B_fateOfCall 57 = .ok (.bipush 8, 2) := by decide +kernel
theorem d_B_fateOfCall_59 : decode b_B_fateOfCall 59 = .ok (.iand, 1) := by decide +kernel
theorem d_B_fateOfCall_60 : decode b_B_fateOfCall 60 = .ok (.ifCond .eq 6, 3) := by decide +kernel
theorem d_B_fateOfCall_63 : decode b_B_fateOfCall 63 = .ok (.bipush (-8), 2) := by decide +kernel
theorem d_B_fateOfCall_65 : decode b_B_fateOfCall 65 = .ok (.ireturn, 1) := by decide +kernel
theorem d_B_fateOfCall_66 : decode b_B_fateOfCall 66 = .ok (.iload 4, 2) := by decide +kernel
theorem d_B_fateOfCall_68 : decode b_B_fateOfCall 68 = .ok (.iconst 1, 1) := by decide +kernel
theorem d_B_fateOfCall_69 : decode b_B_fateOfCall 69 = .ok (.iand, 1) := by decide +kernel
theorem d_B_fateOfCall_70 : decode b_B_fateOfCall 70 = .ok (.ifCond .eq 7, 3) := by decide +kernel
theorem d_B_fateOfCall_73 : decode b_B_fateOfCall 73 = .ok (.iconst 1, 1) := by decide +kernel
theorem d_B_fateOfCall_74 : decode b_B_fateOfCall 74 = .ok (.goto 4, 3) := by decide +kernel
theorem d_B_fateOfCall_77 : decode b_B_fateOfCall 77 = .ok (.iconst 0, 1) := by decide +kernel
theorem d_B_fateOfCall_78 : decode b_B_fateOfCall 78 = .ok (.aload_n 0, 1) := by decide +kernel
theorem d_B_fateOfCall_79 : decode b_B_fateOfCall 79 = .ok (.getfield 80, 3) := by decide +kernel
theorem d_B_fateOfCall_82 : decode b_B_fateOfCall 82 = .ok (.if_icmp .eq 6, 3) := by decide +kernel
theorem d_B_fateOfCall_85 : decode b_B_fateOfCall 85 = .ok (.bipush (-9), 2) := by decide +kernel
theorem d_B_fateOfCall_87 : decode b_B_fateOfCall 87 = .ok (.ireturn, 1) := by decide +kernel
theorem d_B_fateOfCall_88 : decode b_B_fateOfCall 88 = .ok (.iload_n 3, 1) := by decide +kernel
theorem d_B_fateOfCall_89 : decode b_B_fateOfCall 89 = .ok (.bipush 12, 2) := by decide +kernel
theorem d_B_fateOfCall_91 : decode b_B_fateOfCall 91 = .ok (.idiv, 1) := by decide +kernel
theorem d_B_fateOfCall_92 : decode b_B_fateOfCall 92 = .ok (.aload_n 0, 1) := by decide +kernel
theorem d_B_fateOfCall_93 : decode b_B_fateOfCall 93 = .ok (.getfield 106, 3) := by decide +kernel
theorem d_B_fateOfCall_96 : decode b_B_fateOfCall 96 = .ok (.if_icmp .ne 7, 3) := by decide +kernel
theorem d_B_fateOfCall_99 : decode b_B_fateOfCall 99 = .ok (.iconst 0, 1) := by decide +kernel
theorem d_B_fateOfCall_100 : decode b_B_fateOfCall 100 = .ok (.goto 4, 3) := by decide +kernel
theorem d_B_fateOfCall_103 : decode b_B_fateOfCall 103 = .ok (.iconst 1, 1) := by decide +kernel
theorem d_B_fateOfCall_104 : decode b_B_fateOfCall 104 = .ok (.ireturn, 1) := by decide +kernel
theorem d_B_isSubtypeBarred_0 : decode b_B_isSubtypeBarred 0 = .ok (.aload_n 2, 1) := by decide +kernel
theorem d_B_isSubtypeBarred_1 : decode b_B_isSubtypeBarred 1 = .ok (.aload_n 1, 1) := by decide +kernel
theorem d_B_isSubtypeBarred_2 : decode b_B_isSubtypeBarred 2 = .ok (.getfield 15, 3) := by decide +kernel
theorem d_B_isSubtypeBarred_5 : decode b_B_isSubtypeBarred 5 = .ok (.invokevirtual 52, 3) := by decide +kernel
theorem d_B_isSubtypeBarred_8 : decode b_B_isSubtypeBarred 8 = .ok (.ifCond .ne 18, 3) := by decide +kernel
theorem d_B_isSubtypeBarred_11 : decode b_B_isSubtypeBarred 11 = .ok (.aload_n 2, 1) := by decide +kernel
theorem d_B_isSubtypeBarred_12 : decode b_B_isSubtypeBarred 12 = .ok (.aload_n 1, 1) := by decide +kernel
theorem d_B_isSubtypeBarred_13 : decode b_B_isSubtypeBarred 13 = .ok (.getfield 15, 3) := by decide +kernel
theorem d_B_isSubtypeBarred_16 : decode b_B_isSubtypeBarred 16 = .ok (.invokevirtual 21, 3) := by decide +kernel
theorem d_B_isSubtypeBarred_19 : decode b_B_isSubtypeBarred 19 = .ok (.aload_n 0, 1) := by decide +kernel
theorem d_B_isSubtypeBarred_20 : decode b_B_isSubtypeBarred 20 = .ok (.getfield 27, 3) := by decide +kernel
theorem d_B_isSubtypeBarred_23 : decode b_B_isSubtypeBarred 23 = .ok (.if_icmp .eq 7, 3) := by decide +kernel
theorem d_B_isSubtypeBarred_26 : decode b_B_isSubtypeBarred 26 = .ok (.iconst 1, 1) := by decide +kernel
theorem d_B_isSubtypeBarred_27 : decode b_B_isSubtypeBarred 27 = .ok (.goto 4, 3) := by decide +kernel
theorem d_B_isSubtypeBarred_30 : decode b_B_isSubtypeBarred 30 = .ok (.iconst 0, 1) := by decide +kernel
theorem d_B_isSubtypeBarred_31 : decode b_B_isSubtypeBarred 31 = .ok (.ireturn, 1) := by decide +kernel
theorem d_B_fateOfOverride_0 : decode b_B_fateOfOverride 0 = .ok (.aload_n 0, 1) := by decide +kernel
theorem d_B_fateOfOverride_1 : decode b_B_fateOfOverride 1 = .ok (.aload_n 1, 1) := by decide +kernel
theorem d_B_fateOfOverride_2 : decode b_B_fateOfOverride 2 = .ok (.aload_n 2, 1) := by decide +kernel
theorem d_B_fateOfOverride_3 : decode b_B_fateOfOverride 3 = .ok (.invokevirtual 123, 3) := by decide +kernel
theorem d_B_fateOfOverride_6 : decode b_B_fateOfOverride 6 = .ok (.ifCond .eq 6, 3) := by decide +kernel
theorem d_B_fateOfOverride_9 : decode b_B_fateOfOverride 9 = .ok (.bipush (-9), 2) := by decide +kernel
theorem d_B_fateOfOverride_11 : decode b_B_fateOfOverride 11 = .ok (.ireturn, 1) := by decide +kernel
theorem d_B_fateOfOverride_12 : decode b_B_fateOfOverride 12 = .ok (.aload_n 2, 1) := by decide +kernel
theorem d_B_fateOfOverride_13 : decode b_B_fateOfOverride 13 = .ok (.aload_n 1, 1) := by decide +kernel
theorem d_B_fateOfOverride_14 : decode b_B_fateOfOverride 14 = .ok (.getfield 15, 3) := by decide +kernel
theorem d_B_fateOfOverride_17 : decode b_B_fateOfOverride 17 = .ok (.aload_n 1, 1) := by decide +kernel
theorem d_B_fateOfOverride_18 : decode b_B_fateOfOverride 18 = .ok (.getfield 58, 3) := by decide +kernel
theorem d_B_fateOfOverride_21 : decode b_B_fateOfOverride 21 = .ok (.aload_n 1, 1) := by decide +kernel
theorem d_B_fateOfOverride_22 : decode b_B_fateOfOverride 22 = .ok (.getfield 83, 3) := by decide +kernel
theorem d_B_fateOfOverride_25 : decode b_B_fateOfOverride 25 = .ok (.iconst (-1), 1) := by decide +kernel
theorem d_B_fateOfOverride_26 : decode b_B_fateOfOverride 26 = .ok (.invokevirtual 86, 3) := by decide +kernel
theorem d_B_fateOfOverride_29 : decode b_B_fateOfOverride 29 = .ok (.istore_n 3, 1) := by decide +kernel
theorem d_B_fateOfOverride_30 : decode b_B_fateOfOverride 30 = .ok (.iload_n 3, 1) := by decide +kernel
theorem d_B_fateOfOverride_31 : decode b_B_fateOfOverride 31 = .ok (.iconst (-1), 1) := by decide +kernel
theorem d_B_fateOfOverride_32 : decode b_B_fateOfOverride 32 = .ok (.if_icmp .eq 15, 3) := by decide +kernel
theorem d_B_fateOfOverride_35 : decode b_B_fateOfOverride 35 = .ok (.aload_n 2, 1) := by decide +kernel
theorem d_B_fateOfOverride_36 : decode b_B_fateOfOverride 36 = .ok (.getfield 90, 3) := by decide +kernel
theorem d_B_fateOfOverride_39 : decode b_B_fateOfOverride 39 = .ok (.iload_n 3, 1) := by decide +kernel
theorem d_B_fateOfOverride_40 : decode b_B_fateOfOverride 40 = .ok (.iaload, 1) := by decide +kernel
theorem d_B_fateOfOverride_41 : decode b_B_fateOfOverride 41 = .ok (.bipush 8, 2) := by decide +kernel
theorem d_B_fateOfOverride_43 : decode b_B_fateOfOverride 43 = .ok (.iand, 1) := by decide +kernel
theorem d_B_fateOfOverride_44 : decode b_B_fateOfOverride 44 = .ok (.ifCond .eq 5, 3) := by decide +kernel
theorem d_B_fateOfOverride_47 : decode b_B_fateOfOverride 47 = .ok (.iconst 3, 1) := by decide +kernel
theorem d_B_fateOfOverride_48 : decode b_B_fateOfOverride 48 = .ok (.ireturn, 1) := by decide +kernel
theorem d_B_fateOfOverride_49 : decode b_B_fateOfOverride 49 = .ok (.aload_n 2, 1) := by decide +kernel
theorem d_B_fateOfOverride_50 : decode b_B_fateOfOverride 50 = .ok (.getfield 90, 3) := by decide +kernel
theorem d_B_fateOfOverride_53 : decode b_B_fateOfOverride 53 = .ok (.iload_n 3, 1) := by decide +kernel
theorem d_B_fateOfOverride_54 : decode b_B_fateOfOverride 54 = .ok (.iaload, 1) := by decide +kernel
theorem d_B_fateOfOverride_55 : decode b_B_fateOfOverride 55 = .ok (.iconst 5, 1) := by decide +kernel
theorem d_B_fateOfOverride_56 : decode b_B_fateOfOverride 56 = .ok (.iand, 1) := by decide +kernel
theorem d_B_fateOfOverride_57 : decode b_B_fateOfOverride 57 = .ok (.ifCond .eq 6, 3) := by decide +kernel
theorem d_B_fateOfOverride_60 : decode b_B_fateOfOverride 60 = .ok (.bipush (-9), 2) := by decide +kernel
theorem d_B_fateOfOverride_62 : decode b_B_fateOfOverride 62 = .ok (.ireturn, 1) := by decide +kernel
theorem d_B_fateOfOverride_63 : decode b_B_fateOfOverride 63 = .ok (.aload_n 2, 1) := by decide +kernel
theorem d_B_fateOfOverride_64 : decode b_B_fateOfOverride 64 = .ok (.getfield 100, 3) := by decide +kernel
theorem d_B_fateOfOverride_67 : decode b_B_fateOfOverride 67 = .ok (.iload_n 3, 1) := by decide +kernel
theorem d_B_fateOfOverride_68 : decode b_B_fateOfOverride 68 = .ok (.iaload, 1) := by decide +kernel
theorem d_B_fateOfOverride_69 : decode b_B_fateOfOverride 69 = .ok (.aload_n 0, 1) := by decide +kernel
theorem d_B_fateOfOverride_70 : decode b_B_fateOfOverride 70 = .ok (.getfield 103, 3) := by decide +kernel
theorem d_B_fateOfOverride_73 : decode b_B_fateOfOverride 73 = .ok (.if_icmp .ne 7, 3) := by decide +kernel
theorem d_B_fateOfOverride_76 : decode b_B_fateOfOverride 76 = .ok (.iconst 0, 1) := by decide +kernel
theorem d_B_fateOfOverride_77 : decode b_B_fateOfOverride 77 = .ok (.goto 4, 3) := by decide +kernel
theorem d_B_fateOfOverride_80 : decode b_B_fateOfOverride 80 = .ok (.iconst 3, 1) := by decide +kernel
theorem d_B_fateOfOverride_81 : decode b_B_fateOfOverride 81 = .ok (.ireturn, 1) := by decide +kernel
theorem d_O_init_0 : decode b_O_init 0 = .ok (.aload_n 0, 1) := by decide +kernel
theorem d_O_init_1 : decode b_O_init 1 = .ok (.invokespecial 3, 3) := by decide +kernel
theorem d_O_init_4 : decode b_O_init 4 = .ok (.aload_n 0, 1) := by decide +kernel
theorem d_O_init_5 : decode b_O_init 5 = .ok (.bipush 6, 2) := by decide +kernel
theorem d_O_init_7 : decode b_O_init 7 = .ok (.newarray .int, 2) := by decide +kernel
theorem d_O_init_9 : decode b_O_init 9 = .ok (.putfield 9, 3) := by decide +kernel
theorem d_O_init_12 : decode b_O_init 12 = .ok (.aload_n 0, 1) := by decide +kernel
theorem d_O_init_13 : decode b_O_init 13 = .ok (.bipush 6, 2) := by decide +kernel
theorem d_O_init_15 : decode b_O_init 15 = .ok (.newarray .int, 2) := by decide +kernel
theorem d_O_init_17 : decode b_O_init 17 = .ok (.putfield 15, 3) := by decide +kernel
theorem d_O_init_20 : decode b_O_init 20 = .ok (.aload_n 0, 1) := by decide +kernel
theorem d_O_init_21 : decode b_O_init 21 = .ok (.bipush 6, 2) := by decide +kernel
theorem d_O_init_23 : decode b_O_init 23 = .ok (.newarray .int, 2) := by decide +kernel
theorem d_O_init_25 : decode b_O_init 25 = .ok (.putfield 18, 3) := by decide +kernel
theorem d_O_init_28 : decode b_O_init 28 = .ok (.aload_n 0, 1) := by decide +kernel
theorem d_O_init_29 : decode b_O_init 29 = .ok (.bipush 24, 2) := by decide +kernel
theorem d_O_init_31 : decode b_O_init 31 = .ok (.newarray .int, 2) := by decide +kernel
theorem d_O_init_33 : decode b_O_init 33 = .ok (.putfield 21, 3) := by decide +kernel
theorem d_O_init_36 : decode b_O_init 36 = .ok (.aload_n 0, 1) := by decide +kernel
theorem d_O_init_37 : decode b_O_init 37 = .ok (.bipush 24, 2) := by decide +kernel
theorem d_O_init_39 : decode b_O_init 39 = .ok (.newarray .int, 2) := by decide +kernel
theorem d_O_init_41 : decode b_O_init 41 = .ok (.putfield 24, 3) := by decide +kernel
theorem d_O_init_44 : decode b_O_init 44 = .ok (.aload_n 0, 1) := by decide +kernel
theorem d_O_init_45 : decode b_O_init 45 = .ok (.bipush 24, 2) := by decide +kernel
theorem d_O_init_47 : decode b_O_init 47 = .ok (.newarray .int, 2) := by decide +kernel
theorem d_O_init_49 : decode b_O_init 49 = .ok (.putfield 27, 3) := by decide +kernel
theorem d_O_init_52 : decode b_O_init 52 = .ok (.aload_n 0, 1) := by decide +kernel
theorem d_O_init_53 : decode b_O_init 53 = .ok (.bipush 72, 2) := by decide +kernel
theorem d_O_init_55 : decode b_O_init 55 = .ok (.newarray .int, 2) := by decide +kernel
theorem d_O_init_57 : decode b_O_init 57 = .ok (.putfield 30, 3) := by decide +kernel
theorem d_O_init_60 : decode b_O_init 60 = .ok (.aload_n 0, 1) := by decide +kernel
theorem d_O_init_61 : decode b_O_init 61 = .ok (.bipush 72, 2) := by decide +kernel
theorem d_O_init_63 : decode b_O_init 63 = .ok (.newarray .int, 2) := by decide +kernel
theorem d_O_init_65 : decode b_O_init 65 = .ok (.putfield 33, 3) := by decide +kernel
theorem d_O_init_68 : decode b_O_init 68 = .ok (.iconst 0, 1) := by decide +kernel
theorem d_O_init_69 : decode b_O_init 69 = .ok (.istore_n 1, 1) := by decide +kernel
theorem d_O_init_70 : decode b_O_init 70 = .ok (.iload_n 1, 1) := by decide +kernel
theorem d_O_init_71 : decode b_O_init 71 = .ok (.bipush 6, 2) := by decide +kernel
theorem d_O_init_73 : decode b_O_init 73 = .ok (.if_icmp .ge 24, 3) := by decide +kernel
theorem d_O_init_76 : decode b_O_init 76 = .ok (.aload_n 0, 1) := by decide +kernel
theorem d_O_init_77 : decode b_O_init 77 = .ok (.getfield 9, 3) := by decide +kernel
theorem d_O_init_80 : decode b_O_init 80 = .ok (.iload_n 1, 1) := by decide +kernel
theorem d_O_init_81 : decode b_O_init 81 = .ok (.iconst (-1), 1) := by decide +kernel
theorem d_O_init_82 : decode b_O_init 82 = .ok (.iastore, 1) := by decide +kernel
theorem d_O_init_83 : decode b_O_init 83 = .ok (.aload_n 0, 1) := by decide +kernel
theorem d_O_init_84 : decode b_O_init 84 = .ok (.getfield 15, 3) := by decide +kernel
theorem d_O_init_87 : decode b_O_init 87 = .ok (.iload_n 1, 1) := by decide +kernel
theorem d_O_init_88 : decode b_O_init 88 = .ok (.bipush 6, 2) := by decide +kernel
theorem d_O_init_90 : decode b_O_init 90 = .ok (.iastore, 1) := by decide +kernel
theorem d_O_init_91 : decode b_O_init 91 = .ok (.iinc 1 1, 3) := by decide +kernel
theorem d_O_init_94 : decode b_O_init 94 = .ok (.goto (-24), 3) := by decide +kernel
theorem d_O_init_97 : decode b_O_init 97 = .ok (.iconst 0, 1) := by decide +kernel
theorem d_O_init_98 : decode b_O_init 98 = .ok (.istore_n 1, 1) := by decide +kernel
theorem d_O_init_99 : decode b_O_init 99 = .ok (.iload_n 1, 1) := by decide +kernel
theorem d_O_init_100 : decode b_O_init 100 = .ok (.aload_n 0, 1) := by decide +kernel
theorem d_O_init_101 : decode b_O_init 101 = .ok (.getfield 21, 3) := by decide +kernel
theorem d_O_init_104 : decode b_O_init 104 = .ok (.arraylength, 1) := by decide +kernel
theorem d_O_init_105 : decode b_O_init 105 = .ok (.if_icmp .ge 16, 3) := by decide +kernel
theorem d_O_init_108 : decode b_O_init 108 = .ok (.aload_n 0, 1) := by decide +kernel
theorem d_O_init_109 : decode b_O_init 109 = .ok (.getfield 21, 3) := by decide +kernel
theorem d_O_init_112 : decode b_O_init 112 = .ok (.iload_n 1, 1) := by decide +kernel
theorem d_O_init_113 : decode b_O_init 113 = .ok (.iconst (-1), 1) := by decide +kernel
theorem d_O_init_114 : decode b_O_init 114 = .ok (.iastore, 1) := by decide +kernel
theorem d_O_init_115 : decode b_O_init 115 = .ok (.iinc 1 1, 3) := by decide +kernel
theorem d_O_init_118 : decode b_O_init 118 = .ok (.goto (-19), 3) := by decide +kernel
theorem d_O_init_121 : decode b_O_init 121 = .ok (.iconst 0, 1) := by decide +kernel
theorem d_O_init_122 : decode b_O_init 122 = .ok (.istore_n 1, 1) := by decide +kernel
theorem d_O_init_123 : decode b_O_init 123 = .ok (.iload_n 1, 1) := by decide +kernel
theorem d_O_init_124 : decode b_O_init 124 = .ok (.aload_n 0, 1) := by decide +kernel
theorem d_O_init_125 : decode b_O_init 125 = .ok (.getfield 30, 3) := by decide +kernel
theorem d_O_init_128 : decode b_O_init 128 = .ok (.arraylength, 1) := by decide +kernel
theorem d_O_init_129 : decode b_O_init 129 = .ok (.if_icmp .ge 16, 3) := by decide +kernel
theorem d_O_init_132 : decode b_O_init 132 = .ok (.aload_n 0, 1) := by decide +kernel
theorem d_O_init_133 : decode b_O_init 133 = .ok (.getfield 30, 3) := by decide +kernel
theorem d_O_init_136 : decode b_O_init 136 = .ok (.iload_n 1, 1) := by decide +kernel
theorem d_O_init_137 : decode b_O_init 137 = .ok (.iconst (-1), 1) := by decide +kernel
theorem d_O_init_138 : decode b_O_init 138 = .ok (.iastore, 1) := by decide +kernel
theorem d_O_init_139 : decode b_O_init 139 = .ok (.iinc 1 1, 3) := by decide +kernel
theorem d_O_init_142 : decode b_O_init 142 = .ok (.goto (-19), 3) := by decide +kernel
theorem d_O_init_145 : decode b_O_init 145 = .ok (.return_, 1) := by decide +kernel
theorem d_O_isThere_0 : decode b_O_isThere 0 = .ok (.aload_n 0, 1) := by decide +kernel
theorem d_O_isThere_1 : decode b_O_isThere 1 = .ok (.getfield 9, 3) := by decide +kernel
theorem d_O_isThere_4 : decode b_O_isThere 4 = .ok (.iload_n 1, 1) := by decide +kernel
theorem d_O_isThere_5 : decode b_O_isThere 5 = .ok (.iaload, 1) := by decide +kernel
theorem d_O_isThere_6 : decode b_O_isThere 6 = .ok (.iconst (-1), 1) := by decide +kernel
theorem d_O_isThere_7 : decode b_O_isThere 7 = .ok (.if_icmp .eq 7, 3) := by decide +kernel
theorem d_O_isThere_10 : decode b_O_isThere 10 = .ok (.iconst 1, 1) := by decide +kernel
theorem d_O_isThere_11 : decode b_O_isThere 11 = .ok (.goto 4, 3) := by decide +kernel
theorem d_O_isThere_14 : decode b_O_isThere 14 = .ok (.iconst 0, 1) := by decide +kernel
theorem d_O_isThere_15 : decode b_O_isThere 15 = .ok (.ireturn, 1) := by decide +kernel
theorem d_O_isInterface_0 : decode b_O_isInterface 0 = .ok (.aload_n 0, 1) := by decide +kernel
theorem d_O_isInterface_1 : decode b_O_isInterface 1 = .ok (.iload_n 1, 1) := by decide +kernel
theorem d_O_isInterface_2 : decode b_O_isInterface 2 = .ok (.iconst 1, 1) := by decide +kernel
theorem d_O_isInterface_3 : decode b_O_isInterface 3 = .ok (.invokevirtual 36, 3) := by decide +kernel
theorem d_O_isInterface_6 : decode b_O_isInterface 6 = .ok (.ireturn, 1) := by decide +kernel
theorem d_O_isHidden_0 : decode b_O_isHidden 0 = .ok (.aload_n 0, 1) := by decide +kernel
theorem d_O_isHidden_1 : decode b_O_isHidden 1 = .ok (.iload_n 1, 1) := by decide +kernel
theorem d_O_isHidden_2 : decode b_O_isHidden 2 = .ok (.bipush 8, 2) := by decide +kernel
theorem d_O_isHidden_4 : decode b_O_isHidden 4 = .ok (.invokevirtual 36, 3) := by decide +kernel
theorem d_O_isHidden_7 : decode b_O_isHidden 7 = .ok (.ireturn, 1) := by decide +kernel
theorem d_O_isFinal_0 : decode b_O_isFinal 0 = .ok (.aload_n 0, 1) := by decide +kernel
theorem d_O_isFinal_1 : decode b_O_isFinal 1 = .ok (.iload_n 1, 1) := by decide +kernel
theorem d_O_isFinal_2 : decode b_O_isFinal 2 = .ok (.iconst 4, 1) := by decide +kernel
theorem d_O_isFinal_3 : decode b_O_isFinal 3 = .ok (.invokevirtual 36, 3) := by decide +kernel
theorem d_O_isFinal_6 : decode b_O_isFinal 6 = .ok (.ireturn, 1) := by decide +kernel
theorem d_O_isAbstract_0 : decode b_O_isAbstract 0 = .ok (.aload_n 0, 1) := by decide +kernel
theorem d_O_isAbstract_1 : decode b_O_isAbstract 1 = .ok (.iload_n 1, 1) := by decide +kernel
theorem d_O_isAbstract_2 : decode b_O_isAbstract 2 = .ok (.iconst 3, 1) := by decide +kernel
theorem d_O_isAbstract_3 : decode b_O_isAbstract 3 = .ok (.invokevirtual 36, 3) := by decide +kernel
theorem d_O_isAbstract_6 : decode b_O_isAbstract 6 = .ok (.ireturn, 1) := by decide +kernel
theorem d_O_hasFlag_0 : decode b_O_hasFlag 0 = .ok (.aload_n 0, 1) := by decide +kernel
theorem d_O_hasFlag_1 : decode b_O_hasFlag 1 = .ok (.getfield 9, 3) := by decide +kernel
theorem d_O_hasFlag_4 : decode b_O_hasFlag 4 = .ok (.iload_n 1, 1) := by decide +kernel
theorem d_O_hasFlag_5 : decode b_O_hasFlag 5 = .ok (.iaload, 1) := by decide +kernel
theorem d_O_hasFlag_6 : decode b_O_hasFlag 6 = .ok (.iconst (-1), 1) := by decide +kernel
theorem d_O_hasFlag_7 : decode b_O_hasFlag 7 = .ok (.if_icmp .eq 18, 3) := by decide +kernel
theorem d_O_hasFlag_10 : decode b_O_hasFlag 10 = .ok (.aload_n 0, 1) := by decide +kernel
theorem d_O_hasFlag_11 : decode b_O_hasFlag 11 = .ok (.getfield 9, 3) := by decide +kernel
theorem d_O_hasFlag_14 : decode b_O_hasFlag 14 = .ok (.iload_n 1, 1) := by decide +kernel
theorem d_O_hasFlag_15 : decode b_O_hasFlag 15 = .ok (.iaload, 1) := by decide +kernel
theorem d_O_hasFlag_16 : decode b_O_hasFlag 16 = .ok (.iload_n 2, 1) := by decide +kernel
theorem d_O_hasFlag_17 : decode b_O_hasFlag 17 = .ok (.iand, 1) := by decide +kernel
theorem d_O_hasFlag_18 : decode b_O_hasFlag 18 = .ok (.ifCond .eq 7, 3) := by decide +kernel
theorem d_O_hasFlag_21 : decode b_O_hasFlag 21 = .ok (.iconst 1, 1) := by decide +kernel
theorem d_O_hasFlag_22 : decode b_O_hasFlag 22 = .ok (.goto 4, 3) := by decide +kernel
theorem d_O_hasFlag_25 : decode b_O_hasFlag 25 = .ok (.iconst 0, 1) := by decide +kernel
theorem d_O_hasFlag_26 : decode b_O_hasFlag 26 = .ok (.ireturn, 1) := by decide +kernel
theorem d_O_canName_0 : decode b_O_canName 0 = .ok (.iload_n 2, 1) := by decide +kernel
theorem d_O_canName_1 : decode b_O_canName 1 = .ok (.bipush 6, 2) := by decide +kernel
theorem d_O_canName_3 : decode b_O_canName 3 = .ok (.if_icmp .eq 26, 3) := by decide +kernel
theorem d_O_canName_6 : decode b_O_canName 6 = .ok (.iload_n 2, 1) := by decide +kernel
theorem d_O_canName_7 : decode b_O_canName 7 = .ok (.iload_n 1, 1) := by decide +kernel
theorem d_O_canName_8 : decode b_O_canName 8 = .ok (.if_icmp .ge 19, 3) := by decide +kernel
theorem d_O_canName_11 : decode b_O_canName 11 = .ok (.aload_n 0, 1) := by decide +kernel
theorem d_O_canName_12 : decode b_O_canName 12 = .ok (.iload_n 2, 1) := by decide +kernel
theorem d_O_canName_13 : decode b_O_canName 13 = .ok (.invokevirtual 40, 3) := by decide +kernel
theorem d_O_canName_16 : decode b_O_canName 16 = .ok (.ifCond .eq 11, 3) := by decide +kernel
theorem d_O_canName_19 : decode b_O_canName 19 = .ok (.aload_n 0, 1) := by decide +kernel
theorem d_O_canName_20 : decode b_O_canName 20 = .ok (.iload_n 2, 1) := by decide +kernel
theorem d_O_canName_21 : decode b_O_canName 21 = .ok (.invokevirtual 44, 3) := by decide +kernel
theorem d_O_canName_24 : decode b_O_canName 24 = .ok (.ifCond .eq 5, 3) := by decide +kernel
theorem d_O_canName_27 : decode b_O_canName 27 = .ok (.iconst 0, 1) := by decide +kernel
theorem d_O_canName_28 : decode b_O_canName 28 = .ok (.ireturn, 1) := by decide +kernel
theorem d_O_canName_29 : decode b_O_canName 29 = .ok (.iconst 0, 1) := by decide +kernel
theorem d_O_canName_30 : decode b_O_canName 30 = .ok (.istore 4, 2) := by decide +kernel
theorem d_O_canName_32 : decode b_O_canName 32 = .ok (.iload 4, 2) := by decide +kernel
theorem d_O_canName_34 : decode b_O_canName 34 = .ok (.bipush 6, 2) := by decide +kernel
theorem d_O_canName_36 : decode b_O_canName 36 = .ok (.if_icmp .ge 35, 3) := by decide +kernel
theorem d_O_canName_39 : decode b_O_canName 39 = .ok (.iload_n 3, 1) := by decide +kernel
theorem d_O_canName_40 : decode b_O_canName 40 = .ok (.iload 4, 2) := by decide +kernel
theorem d_O_canName_42 : decode b_O_canName 42 = .ok (.invokestatic 47, 3) := by decide +kernel
theorem d_O_canName_45 : decode b_O_canName 45 = .ok (.ifCond .eq 20, 3) := by decide +kernel
theorem d_O_canName_48 : decode b_O_canName 48 = .ok (.iload 4, 2) := by decide +kernel
theorem d_O_canName_50 : decode b_O_canName 50 = .ok (.iload_n 1, 1) := by decide +kernel
theorem d_O_canName_51 : decode b_O_canName 51 = .ok (.if_icmp .ge 12, 3) := by decide +kernel
theorem d_O_canName_54 : decode b_O_canName 54 = .ok (.aload_n 0, 1) := by decide +kernel
theorem d_O_canName_55 : decode b_O_canName 55 = .ok (.iload 4, 2) := by decide +kernel
theorem d_O_canName_57 : decode b_O_canName 57 = .ok (.invokevirtual 44, 3) := by decide +kernel
theorem d_O_canName_60 : decode b_O_canName 60 = .ok (.ifCond .ne 5, 3) := by decide +kernel
theorem d_O_canName_63 : decode b_O_canName 63 = .ok (.iconst 0, 1) := by decide +kernel
theorem d_O_canName_64 : decode b_O_canName 64 = .ok (.ireturn, 1) := by decide +kernel
theorem d_O_canName_65 : decode b_O_canName 65 = .ok (.iinc 4 1, 3) := by decide +kernel
theorem d_O_canName_68 : decode b_O_canName 68 = .ok (.goto (-36), 3) := by decide +kernel
theorem d_O_canName_71 : decode b_O_canName 71 = .ok (.iconst 1, 1) := by decide +kernel
theorem d_O_canName_72 : decode b_O_canName 72 = .ok (.ireturn, 1) := by decide +kernel
theorem d_O_isNamed_0 : decode b_O_isNamed 0 = .ok (.iconst 0, 1) := by decide +kernel
theorem d_O_isNamed_1 : decode b_O_isNamed 1 = .ok (.istore_n 2, 1) := by decide +kernel
theorem d_O_isNamed_2 : decode b_O_isNamed 2 = .ok (.iload_n 2, 1) := by decide +kernel
theorem d_O_isNamed_3 : decode b_O_isNamed 3 = .ok (.bipush 6, 2) := by decide +kernel
theorem d_O_isNamed_5 : decode b_O_isNamed 5 = .ok (.if_icmp .ge 42, 3) := by decide +kernel
theorem d_O_isNamed_8 : decode b_O_isNamed 8 = .ok (.aload_n 0, 1) := by decide +kernel
theorem d_O_isNamed_9 : decode b_O_isNamed 9 = .ok (.iload_n 2, 1) := by decide +kernel
theorem d_O_isNamed_10 : decode b_O_isNamed 10 = .ok (.invokevirtual 40, 3) := by decide +kernel
theorem d_O_isNamed_13 : decode b_O_isNamed 13 = .ok (.ifCond .eq 28, 3) := by decide +kernel
theorem d_O_isNamed_16 : decode b_O_isNamed 16 = .ok (.aload_n 0, 1) := by decide +kernel
theorem d_O_isNamed_17 : decode b_O_isNamed 17 = .ok (.getfield 15, 3) := by decide +kernel
theorem d_O_isNamed_20 : decode b_O_isNamed 20 = .ok (.iload_n 2, 1) := by decide +kernel
theorem d_O_isNamed_21 : decode b_O_isNamed 21 = .ok (.iaload, 1) := by decide +kernel
theorem d_O_isNamed_22 : decode b_O_isNamed 22 = .ok (.iload_n 1, 1) := by decide +kernel
theorem d_O_isNamed_23 : decode b_O_isNamed 23 = .ok (.if_icmp .eq 16, 3) := by decide +kernel
theorem d_O_isNamed_26 : decode b_O_isNamed 26 = .ok (.aload_n 0, 1) := by decide +kernel
theorem d_O_isNamed_27 : decode b_O_isNamed 27 = .ok (.getfield 18, 3) := by decide +kernel
theorem d_O_isNamed_30 : decode b_O_isNamed 30 = .ok (.iload_n 2, 1) := by decide +kernel
theorem d_O_isNamed_31 : decode b_O_isNamed 31 = .ok (.iaload, 1) := by decide +kernel
theorem d_O_isNamed_32 : decode b_O_isNamed 32 = .ok (.iload_n 1, 1) := by decide +kernel
theorem d_O_isNamed_33 : decode b_O_isNamed 33 = .ok (.invokestatic 47, 3) := by decide +kernel
theorem d_O_isNamed_36 : decode b_O_isNamed 36 = .ok (.ifCond .eq 5, 3) := by decide +kernel
theorem d_O_isNamed_39 : decode b_O_isNamed 39 = .ok (.iconst 1, 1) := by decide +kernel
theorem d_O_isNamed_40 : decode b_O_isNamed 40 = .ok (.ireturn, 1) := by decide +kernel
theorem d_O_isNamed_41 : decode b_O_isNamed 41 = .ok (.iinc 2 1, 3) := by decide +kernel
theorem d_O_isNamed_44 : decode b_O_isNamed 44 = .ok (.goto (-42), 3) := by decide +kernel
theorem d_O_isNamed_47 : decode b_O_isNamed 47 = .ok (.iconst 0, 1) := by decide +kernel
theorem d_O_isNamed_48 : decode b_O_isNamed 48 = .ok (.ireturn, 1) := by decide +kernel
theorem d_O_putType_0 : decode b_O_putType 0 = .ok (.aload_n 0, 1) := by decide +kernel
theorem d_O_putType_1 : decode b_O_putType 1 = .ok (.getfield 9, 3) := by decide +kernel
theorem d_O_putType_4 : decode b_O_putType 4 = .ok (.iload_n 1, 1) := by decide +kernel
theorem d_O_putType_5 : decode b_O_putType 5 = .ok (.iload_n 2, 1) := by decide +kernel
theorem d_O_putType_6 : decode b_O_putType 6 = .ok (.iastore, 1) := by decide +kernel
theorem d_O_putType_7 : decode b_O_putType 7 = .ok (.aload_n 0, 1) := by decide +kernel
theorem d_O_putType_8 : decode b_O_putType 8 = .ok (.getfield 15, 3) := by decide +kernel
theorem d_O_putType_11 : decode b_O_putType 11 = .ok (.iload_n 1, 1) := by decide +kernel
theorem d_O_putType_12 : decode b_O_putType 12 = .ok (.iload_n 3, 1) := by decide +kernel
theorem d_O_putType_13 : decode b_O_putType 13 = .ok (.iastore, 1) := by decide +kernel
theorem d_O_putType_14 : decode b_O_putType 14 = .ok (.aload_n 0, 1) := by decide +kernel
theorem d_O_putType_15 : decode b_O_putType 15 = .ok (.getfield 18, 3) := by decide +kernel
theorem d_O_putType_18 : decode b_O_putType 18 = .ok (.iload_n 1, 1) := by decide +kernel
theorem d_O_putType_19 : decode b_O_putType 19 = .ok (.iload 4, 2) := by decide +kernel
theorem d_O_putType_21 : decode b_O_putType 21 = .ok (.iastore, 1) := by decide +kernel
theorem d_O_putType_22 : decode b_O_putType 22 = .ok (.return_, 1) := by decide +kernel
theorem d_O_removeType_0 : decode b_O_removeType 0 = .ok (.aload_n 0, 1) := by decide +kernel
theorem d_O_removeType_1 : decode b_O_removeType 1 = .ok (.iload_n 1, 1) := by decide +kernel
theorem d_O_removeType_2 : decode b_O_removeType 2 = .ok (.iconst (-1), 1) := by decide +kernel
theorem d_O_removeType_3 : decode b_O_removeType 3 = .ok (.bipush 6, 2) := by decide +kernel
theorem d_O_removeType_5 : decode b_O_removeType 5 = .ok (.iconst 0, 1) := by decide +kernel
theorem d_O_removeType_6 : decode b_O_removeType 6 = .ok (.invokevirtual 50, 3) := by decide +kernel
theorem d_O_removeType_9 : decode b_O_removeType 9 = .ok (.iconst 0, 1) := by decide +kernel
theorem d_O_removeType_10 : decode b_O_removeType 10 = .ok (.istore_n 2, 1) := by decide +kernel
theorem d_O_removeType_11 : decode b_O_removeType 11 = .ok (.iload_n 2, 1) := by decide +kernel
theorem d_O_removeType_12 : decode b_O_removeType 12 = .ok (.iconst 4, 1) := by decide +kernel
theorem d_O_removeType_13 : decode b_O_removeType 13 = .ok (.if_icmp .ge 20, 3) := by decide +kernel
theorem d_O_removeType_16 : decode b_O_removeType 16 = .ok (.aload_n 0, 1) := by decide +kernel
theorem d_O_removeType_17 : decode b_O_removeType 17 = .ok (.getfield 21, 3) := by decide +kernel
theorem d_O_removeType_20 : decode b_O_removeType 20 = .ok (.iload_n 1, 1) := by decide +kernel
theorem d_O_removeType_21 : decode b_O_removeType 21 = .ok (.iconst 4, 1) := by decide +kernel
theorem d_O_removeType_22 : decode b_O_removeType 22 = .ok (.imul, 1) := by decide +kernel
theorem d_O_removeType_23 : decode b_O_removeType 23 = .ok (.iload_n 2, 1) := by decide +kernel
theorem d_O_removeType_24 : decode b_O_removeType 24 = .ok (.iadd, 1) := by decide +kernel
theorem d_O_removeType_25 : decode b_O_removeType 25 = .ok (.iconst (-1), 1) := by decide +kernel
theorem d_O_removeType_26 : decode b_O_removeType 26 = .ok (.iastore, 1) := by decide +kernel
theorem d_O_removeType_27 : decode b_O_removeType 27 = .ok (.iinc 2 1, 3) := by decide +kernel
theorem d_O_removeType_30 : decode b_O_removeType 30 = .ok (.goto (-19), 3) := by decide +kernel
theorem d_O_removeType_33 : decode b_O_removeType 33 = .ok (.iconst 0, 1) := by decide +kernel
theorem d_O_removeType_34 : decode b_O_removeType 34 = .ok (.istore_n 2, 1) := by decide +kernel
theorem d_O_removeType_35 : decode b_O_removeType 35 = .ok (.iload_n 2, 1) := by decide +kernel
theorem d_O_removeType_36 : decode b_O_removeType 36 = .ok (.bipush 12, 2) := by decide +kernel
theorem d_O_removeType_38 : decode b_O_removeType 38 = .ok (.if_icmp .ge 21, 3) := by decide +kernel
theorem d_O_removeType_41 : decode b_O_removeType 41 = .ok (.aload_n 0, 1) := by decide +kernel
theorem d_O_removeType_42 : decode b_O_removeType 42 = .ok (.getfield 30, 3) := by decide +kernel
theorem d_O_removeType_45 : decode b_O_removeType 45 = .ok (.iload_n 1, 1) := by decide +kernel
theorem d_O_removeType_46 : decode b_O_removeType 46 = .ok (.bipush 12, 2) := by decide +kernel
theorem d_O_removeType_48 : decode b_O_removeType 48 = .ok (.imul, 1) := by decide +kernel
theorem d_O_removeType_49 : decode b_O_removeType 49 = .ok (.iload_n 2, 1) := by decide +kernel
theorem d_O_removeType_50 : decode b_O_removeType 50 = .ok (.iadd, 1) := by decide +kernel
theorem d_O_removeType_51 : decode b_O_removeType 51 = .ok (.iconst (-1), 1) := by decide +kernel
theorem d_O_removeType_52 : decode b_O_removeType 52 = .ok (.iastore, 1) := by decide +kernel
theorem d_O_removeType_53 : decode b_O_removeType 53 = .ok (.iinc 2 1, 3) := by decide +kernel
theorem d_O_removeType_56 : decode b_O_removeType 56 = .ok (.goto (-21), 3) := by decide +kernel
theorem d_O_removeType_59 : decode b_O_removeType 59 = .ok (.return_, 1) := by decide +kernel
theorem d_O_putField_0 : decode b_O_putField 0 = .ok (.aload_n 0, 1) := by decide +kernel
theorem d_O_putField_1 : decode b_O_putField 1 = .ok (.getfield 21, 3) := by decide +kernel
theorem d_O_putField_4 : decode b_O_putField 4 = .ok (.iload_n 1, 1) := by decide +kernel
theorem d_O_putField_5 : decode b_O_putField 5 = .ok (.iload_n 3, 1) := by decide +kernel
theorem d_O_putField_6 : decode b_O_putField 6 = .ok (.iastore, 1) := by decide +kernel
theorem d_O_putField_7 : decode b_O_putField 7 = .ok (.aload_n 0, 1) := by decide +kernel
theorem d_O_putField_8 : decode b_O_putField 8 = .ok (.getfield 24, 3) := by decide +kernel
theorem d_O_putField_11 : decode b_O_putField 11 = .ok (.iload_n 1, 1) := by decide +kernel
theorem d_O_putField_12 : decode b_O_putField 12 = .ok (.iload_n 2, 1) := by decide +kernel
theorem d_O_putField_13 : decode b_O_putField 13 = .ok (.iastore, 1) := by decide +kernel
theorem d_O_putField_14 : decode b_O_putField 14 = .ok (.aload_n 0, 1) := by decide +kernel
theorem d_O_putField_15 : decode b_O_putField 15 = .ok (.getfield 27, 3) := by decide +kernel
theorem d_O_putField_18 : decode b_O_putField 18 = .ok (.iload_n 1, 1) := by decide +kernel
theorem d_O_putField_19 : decode b_O_putField 19 = .ok (.iload_n 3, 1) := by decide +kernel
theorem d_O_putField_20 : decode b_O_putField 20 = .ok (.bipush 16, 2) := by decide +kernel
theorem d_O_putField_22 : decode b_O_putField 22 = .ok (.iand, 1) := by decide +kernel
theorem d_O_putField_23 : decode b_O_putField 23 = .ok (.ifCond .eq 8, 3) := by decide +kernel
theorem d_O_putField_26 : decode b_O_putField 26 = .ok (.iload 4, 2) := by decide +kernel
theorem d_O_putField_28 : decode b_O_putField 28 = .ok (.goto 4, 3) := by decide +kernel
theorem d_O_putField_31 : decode b_O_putField 31 = .ok (.iconst 0, 1) := by decide +kernel
theorem d_O_putField_32 : decode b_O_putField 32 = .ok (.iastore, 1) := by decide +kernel
theorem d_O_putField_33 : decode b_O_putField 33 = .ok (.return_, 1) := by decide +kernel
theorem d_O_removeField_0 : decode b_O_removeField 0 = .ok (.aload_n 0, 1) := by decide +kernel
theorem d_O_removeField_1 : decode b_O_removeField 1 = .ok (.getfield 21, 3) := by decide +kernel
theorem d_O_removeField_4 : decode b_O_removeField 4 = .ok (.iload_n 1, 1) := by decide +kernel
theorem d_O_removeField_5 : decode b_O_removeField 5 = .ok (.iaload, 1) := by decide +kernel
theorem d_O_removeField_6 : decode b_O_removeField 6 = .ok (.iconst (-1), 1) := by decide +kernel
theorem d_O_removeField_7 : decode b_O_removeField 7 = .ok (.if_icmp .eq 7, 3) := by decide +kernel
theorem d_O_removeField_10 : decode b_O_removeField 10 = .ok (.iconst 1, 1) := by decide +kernel
theorem d_O_removeField_11 : decode b_O_removeField 11 = .ok (.goto 4, 3) := by decide +kernel
theorem d_O_removeField_14 : decode b_O_removeField 14 = .ok (.iconst 0, 1) := by decide +kernel
theorem d_O_removeField_15 : decode b_O_removeField 15 = .ok (.istore_n 2, 1) := by decide +kernel
theorem d_O_removeField_16 : decode b_O_removeField 16 = .ok (.aload_n 0, 1) := by decide +kernel
theorem d_O_removeField_17 : decode b_O_removeField 17 = .ok (.getfield 21, 3) := by decide +kernel
theorem d_O_removeField_20 : decode b_O_removeField 20 = .ok (.iload_n 1, 1) := by decide +kernel
theorem d_O_removeField_21 : decode b_O_removeField 21 = .ok (.iconst (-1), 1) := by decide +kernel
theorem d_O_removeField_22 : decode b_O_removeField 22 = .ok (.iastore, 1) := by decide +kernel
theorem d_O_removeField_23 : decode b_O_removeField 23 = .ok (.iload_n 2, 1) := by decide +kernel
theorem d_O_removeField_24 : decode b_O_removeField 24 = .ok (.ireturn, 1) := by decide +kernel
theorem d_O_putMethod_0 : decode b_O_putMethod 0 = .ok (.aload_n 0, 1) := by decide +kernel
theorem d_O_putMethod_1 : decode b_O_putMethod 1 = .ok (.getfield 30, 3) := by decide +kernel
theorem d_O_putMethod_4 : decode b_O_putMethod 4 = .ok (.iload_n 1, 1) := by decide +kernel
theorem d_O_putMethod_5 : decode b_O_putMethod 5 = .ok (.iload_n 3, 1) := by decide +kernel
theorem d_O_putMethod_6 : decode b_O_putMethod 6 = .ok (.iastore, 1) := by decide +kernel
theorem d_O_putMethod_7 : decode b_O_putMethod 7 = .ok (.aload_n 0, 1) := by decide +kernel
theorem d_O_putMethod_8 : decode b_O_putMethod 8 = .ok (.getfield 33, 3) := by decide +kernel
theorem d_O_putMethod_11 : decode b_O_putMethod 11 = .ok (.iload_n 1, 1) := by decide +kernel
theorem d_O_putMethod_12 : decode b_O_putMethod 12 = .ok (.iload_n 2, 1) := by decide +kernel
theorem d_O_putMethod_13 : decode b_O_putMethod 13 = .ok (.iastore, 1) := by decide +kernel
theorem d_O_putMethod_14 : decode b_O_putMethod 14 = .ok (.return_, 1) := by decide +kernel
theorem d_O_removeMethod_0 : decode b_O_removeMethod 0 = .ok (.aload_n 0, 1) := by decide +kernel
theorem d_O_removeMethod_1 : decode b_O_removeMethod 1 = .ok (.getfield 30, 3) := by decide +kernel
theorem d_O_removeMethod_4 : decode b_O_removeMethod 4 = .ok (.iload_n 1, 1) := by decide +kernel
theorem d_O_removeMethod_5 : decode b_O_removeMethod 5 = .ok (.iaload, 1) := by decide +kernel
theorem d_O_removeMethod_6 : decode b_O_removeMethod 6 = .ok (.iconst (-1), 1) := by decide +kernel
theorem d_O_removeMethod_7 : decode b_O_removeMethod 7 = .ok (.if_icmp .eq 7, 3) := by decide +kernel
theorem d_O_removeMethod_10 : decode b_O_removeMethod 10 = .ok (.iconst 1, 1) := by decide +kernel
theorem d_O_removeMethod_11 : decode b_O_removeMethod 11 = .ok (.goto 4, 3) := by decide +kernel
theorem d_O_removeMethod_14 : decode b_O_removeMethod 14 = .ok (.iconst 0, 1) := by decide +kernel
theorem d_O_removeMethod_15 : decode b_O_removeMethod 15 = .ok (.istore_n 2, 1) := by decide +kernel
theorem d_O_removeMethod_16 : decode b_O_removeMethod 16 = .ok (.aload_n 0, 1) := by decide +kernel
theorem d_O_removeMethod_17 : decode b_O_removeMethod 17 = .ok (.getfield 30, 3) := by decide +kernel
theorem d_O_removeMethod_20 : decode b_O_removeMethod 20 = .ok (.iload_n 1, 1) := by decide +kernel
theorem d_O_removeMethod_21 : decode b_O_removeMethod 21 = .ok (.iconst (-1), 1) := by decide +kernel
theorem d_O_removeMethod_22 : decode b_O_removeMethod 22 = .ok (.iastore, 1) := by decide +kernel
theorem d_O_removeMethod_23 : decode b_O_removeMethod 23 = .ok (.iload_n 2, 1) := by decide +kernel
theorem d_O_removeMethod_24 : decode b_O_removeMethod 24 = .ok (.ireturn, 1) := by decide +kernel
theorem d_O_becomeAs_0 : decode b_O_becomeAs 0 = .ok (.aload_n 1, 1) := by decide +kernel
theorem d_O_becomeAs_1 : decode b_O_becomeAs 1 = .ok (.getfield 9, 3) := by decide +kernel
theorem d_O_becomeAs_4 : decode b_O_becomeAs 4 = .ok (.iconst 0, 1) := by decide +kernel
theorem d_O_becomeAs_5 : decode b_O_becomeAs 5 = .ok (.aload_n 0, 1) := by decide +kernel
theorem d_O_becomeAs_6 : decode b_O_becomeAs 6 = .ok (.getfield 9, 3) := by decide +kernel
theorem d_O_becomeAs_9 : decode b_O_becomeAs 9 = .ok (.iconst 0, 1) := by decide +kernel
theorem d_O_becomeAs_10 : decode b_O_becomeAs 10 = .ok (.bipush 6, 2) := by decide +kernel
theorem d_O_becomeAs_12 : decode b_O_becomeAs 12 = .ok (.invokestatic 54, 3) := by decide +kernel
theorem d_O_becomeAs_15 : decode b_O_becomeAs 15 = .ok (.aload_n 1, 1) := by decide +kernel
theorem d_O_becomeAs_16 : decode b_O_becomeAs 16 = .ok (.getfield 15, 3) := by decide +kernel
theorem d_O_becomeAs_19 : decode b_O_becomeAs 19 = .ok (.iconst 0, 1) := by decide +kernel
theorem d_O_becomeAs_20 : decode b_O_becomeAs 20 = .ok (.aload_n 0, 1) := by decide +kernel
theorem d_O_becomeAs_21 : decode b_O_becomeAs 21 = .ok (.getfield 15, 3) := by decide +kernel
theorem d_O_becomeAs_24 : decode b_O_becomeAs 24 = .ok (.iconst 0, 1) := by decide +kernel
theorem d_O_becomeAs_25 : decode b_O_becomeAs 25 = .ok (.bipush 6, 2) := by decide +kernel
theorem d_O_becomeAs_27 : decode b_O_becomeAs 27 = .ok (.invokestatic 54, 3) := by decide +kernel
theorem d_O_becomeAs_30 : decode b_O_becomeAs 30 = .ok (.aload_n 1, 1) := by decide +kernel
theorem d_O_becomeAs_31 : decode b_O_becomeAs 31 = .ok (.getfield 18, 3) := by decide +kernel
theorem d_O_becomeAs_34 : decode b_O_becomeAs 34 = .ok (.iconst 0, 1) := by decide +kernel
theorem d_O_becomeAs_35 : decode b_O_becomeAs 35 = .ok (.aload_n 0, 1) := by decide +kernel
theorem d_O_becomeAs_36 : decode b_O_becomeAs 36 = .ok (.getfield 18, 3) := by decide +kernel
theorem d_O_becomeAs_39 : decode b_O_becomeAs 39 = .ok (.iconst 0, 1) := by decide +kernel
theorem d_O_becomeAs_40 : decode b_O_becomeAs 40 = .ok (.bipush 6, 2) := by decide +kernel
theorem d_O_becomeAs_42 : decode b_O_becomeAs 42 = .ok (.invokestatic 54, 3) := by decide +kernel
theorem d_O_becomeAs_45 : decode b_O_becomeAs 45 = .ok (.aload_n 1, 1) := by decide +kernel
theorem d_O_becomeAs_46 : decode b_O_becomeAs 46 = .ok (.getfield 21, 3) := by decide +kernel
theorem d_O_becomeAs_49 : decode b_O_becomeAs 49 = .ok (.iconst 0, 1) := by decide +kernel
theorem d_O_becomeAs_50 : decode b_O_becomeAs 50 = .ok (.aload_n 0, 1) := by decide +kernel
theorem d_O_becomeAs_51 : decode b_O_becomeAs 51 = .ok (.getfield 21, 3) := by decide +kernel
theorem d_O_becomeAs_54 : decode b_O_becomeAs 54 = .ok (.iconst 0, 1) := by decide +kernel
theorem d_O_becomeAs_55 : decode b_O_becomeAs 55 = .ok (.bipush 24, 2) := by decide +kernel
theorem d_O_becomeAs_57 : decode b_O_becomeAs 57 = .ok (.invokestatic 54, 3) := by decide +kernel
theorem d_O_becomeAs_60 : decode b_O_becomeAs 60 = .ok (.aload_n 1, 1) := by decide +kernel
theorem d_O_becomeAs_61 : decode b_O_becomeAs 61 = .ok (.getfield 24, 3) := by decide +kernel
theorem d_O_becomeAs_64 : decode b_O_becomeAs 64 = .ok (.iconst 0, 1) := by decide +kernel
theorem d_O_becomeAs_65 : decode b_O_becomeAs 65 = .ok (.aload_n 0, 1) := by decide +kernel
theorem d_O_becomeAs_66 : decode b_O_becomeAs 66 = .ok (.getfield 24, 3) := by decide +kernel
theorem d_O_becomeAs_69 : decode b_O_becomeAs 69 = .ok (.iconst 0, 1) := by decide +kernel
theorem d_O_becomeAs_70 : decode b_O_becomeAs 70 = .ok (.bipush 24, 2) := by decide +kernel
theorem d_O_becomeAs_72 : decode b_O_becomeAs 72 = .ok (.invokestatic 54, 3) := by decide +kernel
theorem d_O_becomeAs_75 : decode b_O_becomeAs 75 = .ok (.aload_n 1, 1) := by decide +kernel
theorem d_O_becomeAs_76 : decode b_O_becomeAs 76 = .ok (.getfield 27, 3) := by decide +kernel
theorem d_O_becomeAs_79 : decode b_O_becomeAs 79 = .ok (.iconst 0, 1) := by decide +kernel
theorem d_O_becomeAs_80 : decode b_O_becomeAs 80 = .ok (.aload_n 0, 1) := by decide +kernel
theorem d_O_becomeAs_81 : decode b_O_becomeAs 81 = .ok (.getfield 27, 3) := by decide +kernel
theorem d_O_becomeAs_84 : decode b_O_becomeAs 84 = .ok (.iconst 0, 1) := by decide +kernel
theorem d_O_becomeAs_85 : decode b_O_becomeAs 85 = .ok (.bipush 24, 2) := by decide +kernel
theorem d_O_becomeAs_87 : decode b_O_becomeAs 87 = .ok (.invokestatic 54, 3) := by decide +kernel
theorem d_O_becomeAs_90 : decode b_O_becomeAs 90 = .ok (.aload_n 1, 1) := by decide +kernel
theorem d_O_becomeAs_91 : decode b_O_becomeAs 91 = .ok (.getfield 30, 3) := by decide +kernel
theorem d_O_becomeAs_94 : decode b_O_becomeAs 94 = .ok (.iconst 0, 1) := by decide +kernel
theorem d_O_becomeAs_95 : decode b_O_becomeAs 95 = .ok (.aload_n 0, 1) := by decide +kernel
theorem d_O_becomeAs_96 : decode b_O_becomeAs 96 = .ok (.getfield 30, 3) := by decide +kernel
theorem d_O_becomeAs_99 : decode b_O_becomeAs 99 = .ok (.iconst 0, 1) := by decide +kernel
theorem d_O_becomeAs_100 : decode b_O_becomeAs 100 = .ok (.bipush 72, 2) := by decide +kernel
theorem d_O_becomeAs_102 : decode b_O_becomeAs 102 = .ok (.invokestatic 54, 3) := by decide +kernel
theorem d_O_becomeAs_105 : decode b_O_becomeAs 105 = .ok (.aload_n 1, 1) := by decide +kernel
theorem d_O_becomeAs_106 : decode b_O_becomeAs 106 = .ok (.getfield 33, 3) := by decide +kernel
theorem d_O_becomeAs_109 : decode b_O_becomeAs 109 = .ok (.iconst 0, 1) := by decide +kernel
theorem d_O_becomeAs_110 : decode b_O_becomeAs 110 = .ok (.aload_n 0, 1) := by decide +kernel
theorem d_O_becomeAs_111 : decode b_O_becomeAs 111 = .ok (.getfield 33, 3) := by decide +kernel
theorem d_O_becomeAs_114 : decode b_O_becomeAs 114 = .ok (.iconst 0, 1) := by decide +kernel
theorem d_O_becomeAs_115 : decode b_O_becomeAs 115 = .ok (.bipush 72, 2) := by decide +kernel
theorem d_O_becomeAs_117 : decode b_O_becomeAs 117 = .ok (.invokestatic 54, 3) := by decide +kernel
theorem d_O_becomeAs_120 : decode b_O_becomeAs 120 = .ok (.return_, 1) := by decide +kernel
end
section
theorem d_O_supertypesOf_0 : decode b_O_supertypesOf 0 = .ok (.iconst 1, 1) := by decide +kernel
theorem d_O_supertypesOf_1 : decode b_O_supertypesOf 1 = .ok (.iload_n 1, 1) := by decide +kernel
theorem d_O_supertypesOf_2 : decode b_O_supertypesOf 2 = .ok (.ishl, 1) := by decide +kernel
theorem d_O_supertypesOf_3 : decode b_O_supertypesOf 3 = .ok (.istore_n 2, 1) := by decide +kernel
theorem d_O_supertypesOf_4 : decode b_O_supertypesOf 4 = .ok (.iload_n 1, 1) := by decide +kernel
theorem d_O_supertypesOf_5 : decode b_O_supertypesOf 5 = .ok (.istore_n 3, 1) := by decide +kernel
theorem d_O_supertypesOf_6 : decode b_O_supertypesOf 6 = .ok (.iload_n 3, 1) := by decide +kernel
theorem d_O_supertypesOf_7 : decode b_O_supertypesOf 7 = .ok (.ifCond .lt 48, 3) := by decide +kernel
theorem d_O_supertypesOf_10 : decode b_O_supertypesOf 10 = .ok (.iload_n 2, 1) := by decide +kernel
theorem d_O_supertypesOf_11 : decode b_O_supertypesOf 11 = .ok (.iload_n 3, 1) := by decide +kernel
theorem d_O_supertypesOf_12 : decode b_O_supertypesOf 12 = .ok (.invokestatic 47, 3) := by decide +kernel
theorem d_O_supertypesOf_15 : decode b_O_supertypesOf 15 = .ok (.ifCond .eq 34, 3) := by decide +kernel
theorem d_O_supertypesOf_18 : decode b_O_supertypesOf 18 = .ok (.iload_n 2, 1) := by decide +kernel
theorem d_O_supertypesOf_19 : decode b_O_supertypesOf 19 = .ok (.aload_n 0, 1) := by decide +kernel
theorem d_O_supertypesOf_20 : decode b_O_supertypesOf 20 = .ok (.getfield 18, 3) := by decide +kernel
theorem d_O_supertypesOf_23 : decode b_O_supertypesOf 23 = .ok (.iload_n 3, 1) := by decide +kernel
theorem d_O_supertypesOf_24 : decode b_O_supertypesOf 24 = .ok (.iaload, 1) := by decide +kernel
theorem d_O_supertypesOf_25 : decode b_O_supertypesOf 25 = .ok (.ior, 1) := by decide +kernel
theorem d_O_supertypesOf_26 : decode b_O_supertypesOf 26 = .ok (.istore_n 2, 1) := by decide +kernel
theorem d_O_supertypesOf_27 : decode b_O_supertypesOf 27 = .ok (.aload_n 0, 1) := by decide +kernel
theorem d_O_supertypesOf_28 : decode b_O_supertypesOf 28 = .ok (.getfield 15, 3) := by decide +kernel
theorem d_O_supertypesOf_31 : decode b_O_supertypesOf 31 = .ok (.iload_n 3, 1) := by decide +kernel
theorem d_O_supertypesOf_32 : decode b_O_supertypesOf 32 = .ok (.iaload, 1) := by decide +kernel
theorem d_O_supertypesOf_33 : decode b_O_supertypesOf 33 = .ok (.bipush 6, 2) := by decide +kernel
theorem d_O_supertypesOf_35 : decode b_O_supertypesOf 35 = .ok (.if_icmp .eq 14, 3) := by decide +kernel
theorem d_O_supertypesOf_38 : decode b_O_supertypesOf 38 = .ok (.iload_n 2, 1) := by decide +kernel
theorem d_O_supertypesOf_39 : decode b_O_supertypesOf 39 = .ok (.iconst 1, 1) := by decide +kernel
theorem d_O_supertypesOf_40 : decode b_O_supertypesOf 40 = .ok (.aload_n 0, 1) := by decide +kernel
theorem d_O_supertypesOf_41 : decode b_O_supertypesOf 41 = .ok (.getfield 15, 3) := by decide +kernel
theorem d_O_supertypesOf_44 : decode b_O_supertypesOf 44 = .ok (.iload_n 3, 1) := by decide +kernel
theorem d_O_supertypesOf_45 : decode b_O_supertypesOf 45 = .ok (.iaload, 1) := by decide +kernel
theorem d_O_supertypesOf_46 : decode b_O_supertypesOf 46 = .ok (.ishl, 1) := by decide +kernel
theorem d_O_supertypesOf_47 : decode b_O_supertypesOf 47 = .ok (.ior, 1) := by decide +kernel
theorem d_O_supertypesOf_48 : decode b_O_supertypesOf 48 = .ok (.istore_n 2, 1) := by decide +kernel
theorem d_O_supertypesOf_49 : decode b_O_supertypesOf 49 = .ok (.iinc 3 (-1), 3) := by decide +kernel
theorem d_O_supertypesOf_52 : decode b_O_supertypesOf 52 = .ok (.goto (-46), 3) := by decide +kernel
theorem d_O_supertypesOf_55 : decode b_O_supertypesOf 55 = .ok (.iload_n 2, 1) := by decide +kernel
theorem d_O_supertypesOf_56 : decode b_O_supertypesOf 56 = .ok (.ireturn, 1) := by decide +kernel
theorem d_O_findField_0 : decode b_O_findField 0 = .ok (.aload_n 0, 1) := by decide +kernel
theorem d_O_findField_1 : decode b_O_findField 1 = .ok (.iload_n 1, 1) := by decide +kernel
theorem d_O_findField_2 : decode b_O_findField 2 = .ok (.iload_n 2, 1) := by decide +kernel
theorem d_O_findField_3 : decode b_O_findField 3 = .ok (.iload_n 3, 1) := by decide +kernel
theorem d_O_findField_4 : decode b_O_findField 4 = .ok (.iconst 0, 1) := by decide +kernel
theorem d_O_findField_5 : decode b_O_findField 5 = .ok (.invokevirtual 60, 3) := by decide +kernel
theorem d_O_findField_8 : decode b_O_findField 8 = .ok (.ireturn, 1) := by decide +kernel
theorem d_O_findFieldFrom_0 : decode b_O_findFieldFrom 0 = .ok (.iload 4, 2) := by decide +kernel
theorem d_O_findFieldFrom_2 : decode b_O_findFieldFrom 2 = .ok (.bipush 6, 2) := by decide +kernel
theorem d_O_findFieldFrom_4 : decode b_O_findFieldFrom 4 = .ok (.if_icmp .lt 5, 3) := by decide +kernel
theorem d_O_findFieldFrom_7 : decode b_O_findFieldFrom 7 = .ok (.iconst (-1), 1) := by decide +kernel
theorem d_O_findFieldFrom_8 : decode b_O_findFieldFrom 8 = .ok (.ireturn, 1) := by decide +kernel
theorem d_O_findFieldFrom_9 : decode b_O_findFieldFrom 9 = .ok (.iload_n 1, 1) := by decide +kernel
theorem d_O_findFieldFrom_10 : decode b_O_findFieldFrom 10 = .ok (.iconst 4, 1) := by decide +kernel
theorem d_O_findFieldFrom_11 : decode b_O_findFieldFrom 11 = .ok (.imul, 1) := by decide +kernel
theorem d_O_findFieldFrom_12 : decode b_O_findFieldFrom 12 = .ok (.iload_n 2, 1) := by decide +kernel
theorem d_O_findFieldFrom_13 : decode b_O_findFieldFrom 13 = .ok (.iadd, 1) := by decide +kernel
theorem d_O_findFieldFrom_14 : decode b_O_findFieldFrom 14 = .ok (.istore 5, 2) := by decide +kernel
theorem d_O_findFieldFrom_16 : decode b_O_findFieldFrom 16 = .ok (.aload_n 0, 1) := by decide +kernel
theorem d_O_findFieldFrom_17 : decode b_O_findFieldFrom 17 = .ok (.getfield 21, 3) := by decide +kernel
theorem d_O_findFieldFrom_20 : decode b_O_findFieldFrom 20 = .ok (.iload 5, 2) := by decide +kernel
theorem d_O_findFieldFrom_22 : decode b_O_findFieldFrom 22 = .ok (.iaload, 1) := by decide +kernel
theorem d_O_findFieldFrom_23 : decode b_O_findFieldFrom 23 = .ok (.iconst (-1), 1) := by decide +kernel
theorem d_O_findFieldFrom_24 : decode b_O_findFieldFrom 24 = .ok (.if_icmp .eq 22, 3) := by decide +kernel
theorem d_O_findFieldFrom_27 : decode b_O_findFieldFrom 27 = .ok (.iload_n 3, 1) := by decide +kernel
theorem d_O_findFieldFrom_28 : decode b_O_findFieldFrom 28 = .ok (.iconst (-1), 1) := by decide +kernel
theorem d_O_findFieldFrom_29 : decode b_O_findFieldFrom 29 = .ok (.if_icmp .eq 14, 3) := by decide +kernel
theorem d_O_findFieldFrom_32 : decode b_O_findFieldFrom 32 = .ok (.aload_n 0, 1) := by decide +kernel
theorem d_O_findFieldFrom_33 : decode b_O_findFieldFrom 33 = .ok (.getfield 24, 3) := by decide +kernel
theorem d_O_findFieldFrom_36 : decode b_O_findFieldFrom 36 = .ok (.iload 5, 2) := by decide +kernel
theorem d_O_findFieldFrom_38 : decode b_O_findFieldFrom 38 = .ok (.iaload, 1) := by decide +kernel
theorem d_O_findFieldFrom_39 : decode b_O_findFieldFrom 39 = .ok (.iload_n 3, 1) := by decide +kernel
theorem d_O_findFieldFrom_40 : decode b_O_findFieldFrom 40 = .ok (.if_icmp .ne 6, 3) := by decide +kernel
theorem d_O_findFieldFrom_43 : decode b_O_findFieldFrom 43 = .ok (.iload 5, 2) := by decide +kernel
theorem d_O_findFieldFrom_45 : decode b_O_findFieldFrom 45 = .ok (.ireturn, 1) := by decide +kernel
theorem d_O_findFieldFrom_46 : decode b_O_findFieldFrom 46 = .ok (.iconst 0, 1) := by decide +kernel
theorem d_O_findFieldFrom_47 : decode b_O_findFieldFrom 47 = .ok (.istore 6, 2) := by decide +kernel
theorem d_O_findFieldFrom_49 : decode b_O_findFieldFrom 49 = .ok (.iload 6, 2) := by decide +kernel
theorem d_O_findFieldFrom_51 : decode b_O_findFieldFrom 51 = .ok (.iload_n 1, 1) := by decide +kernel
theorem d_O_findFieldFrom_52 : decode b_O_findFieldFrom 52 = .ok (.if_icmp .ge 46, 3) := by decide +kernel
theorem d_O_findFieldFrom_55 : decode b_O_findFieldFrom 55 = .ok (.aload_n 0, 1) := by decide +kernel
theorem d_O_findFieldFrom_56 : decode b_O_findFieldFrom 56 = .ok (.getfield 18, 3) := by decide +kernel
theorem d_O_findFieldFrom_59 : decode b_O_findFieldFrom 59 = .ok (.iload_n 1, 1) := by decide +kernel
theorem d_O_findFieldFrom_60 : decode b_O_findFieldFrom 60 = .ok (.iaload, 1) := by decide +kernel
theorem d_O_findFieldFrom_61 : decode b_O_findFieldFrom 61 = .ok (.iload 6, 2) := by decide +kernel
theorem d_O_findFieldFrom_63 : decode b_O_findFieldFrom 63 = .ok (.invokestatic 47, 3) := by decide +kernel
theorem d_O_findFieldFrom_66 : decode b_O_findFieldFrom 66 = .ok (.ifCond .eq 26, 3) := by decide +kernel
theorem d_O_findFieldFrom_69 : decode b_O_findFieldFrom 69 = .ok (.aload_n 0, 1) := by decide +kernel
theorem d_O_findFieldFrom_70 : decode b_O_findFieldFrom 70 = .ok (.iload 6, 2) := by decide +kernel
theorem d_O_findFieldFrom_72 : decode b_O_findFieldFrom 72 = .ok (.iload_n 2, 1) := by decide +kernel
theorem d_O_findFieldFrom_73 : decode b_O_findFieldFrom 73 = .ok (.iload_n 3, 1) := by decide +kernel
theorem d_O_findFieldFrom_74 : decode b_O_findFieldFrom 74 = .ok (.iload 4, 2) := by decide +kernel
theorem d_O_findFieldFrom_76 : decode b_O_findFieldFrom 76 = .ok (.iconst 1, 1) := by decide +kernel
theorem d_O_findFieldFrom_77 : decode b_O_findFieldFrom 77 = .ok (.iadd, 1) := by decide +kernel
theorem d_O_findFieldFrom_78 : decode b_O_findFieldFrom 78 = .ok (.invokevirtual 60, 3) := by decide +kernel
theorem d_O_findFieldFrom_81 : decode b_O_findFieldFrom 81 = .ok (.istore 7, 2) := by decide +kernel
theorem d_O_findFieldFrom_83 : decode b_O_findFieldFrom 83 = .ok (.iload 7, 2) := by decide +kernel
theorem d_O_findFieldFrom_85 : decode b_O_findFieldFrom 85 = .ok (.iconst (-1), 1) := by decide +kernel
theorem d_O_findFieldFrom_86 : decode b_O_findFieldFrom 86 = .ok (.if_icmp .eq 6, 3) := by decide +kernel
theorem d_O_findFieldFrom_89 : decode b_O_findFieldFrom 89 = .ok (.iload 7, 2) := by decide +kernel
theorem d_O_findFieldFrom_91 : decode b_O_findFieldFrom 91 = .ok (.ireturn, 1) := by decide +kernel
theorem d_O_findFieldFrom_92 : decode b_O_findFieldFrom 92 = .ok (.iinc 6 1, 3) := by decide +kernel
theorem d_O_findFieldFrom_95 : decode b_O_findFieldFrom 95 = .ok (.goto (-46), 3) := by decide +kernel
theorem d_O_findFieldFrom_98 : decode b_O_findFieldFrom 98 = .ok (.aload_n 0, 1) := by decide +kernel
theorem d_O_findFieldFrom_99 : decode b_O_findFieldFrom 99 = .ok (.getfield 15, 3) := by decide +kernel
theorem d_O_findFieldFrom_102 : decode b_O_findFieldFrom 102 = .ok (.iload_n 1, 1) := by decide +kernel
theorem d_O_findFieldFrom_103 : decode b_O_findFieldFrom 103 = .ok (.iaload, 1) := by decide +kernel
theorem d_O_findFieldFrom_104 : decode b_O_findFieldFrom 104 = .ok (.bipush 6, 2) := by decide +kernel
theorem d_O_findFieldFrom_106 : decode b_O_findFieldFrom 106 = .ok (.if_icmp .ne 5, 3) := by decide +kernel
theorem d_O_findFieldFrom_109 : decode b_O_findFieldFrom 109 = .ok (.iconst (-1), 1) := by decide +kernel
theorem d_O_findFieldFrom_110 : decode b_O_findFieldFrom 110 = .ok (.ireturn, 1) := by decide +kernel
theorem d_O_findFieldFrom_111 : decode b_O_findFieldFrom 111 = .ok (.aload_n 0, 1) := by decide +kernel
theorem d_O_findFieldFrom_112 : decode b_O_findFieldFrom 112 = .ok (.aload_n 0, 1) := by decide +kernel
theorem d_O_findFieldFrom_113 : decode b_O_findFieldFrom 113 = .ok (.getfield 15, 3) := by decide +kernel
theorem d_O_findFieldFrom_116 : decode b_O_findFieldFrom 116 = .ok (.iload_n 1, 1) := by decide +kernel
theorem d_O_findFieldFrom_117 : decode b_O_findFieldFrom 117 = .ok (.iaload, 1) := by decide +kernel
theorem d_O_findFieldFrom_118 : decode b_O_findFieldFrom 118 = .ok (.iload_n 2, 1) := by decide +kernel
theorem d_O_findFieldFrom_119 : decode b_O_findFieldFrom 119 = .ok (.iload_n 3, 1) := by decide +kernel
theorem d_O_findFieldFrom_120 : decode b_O_findFieldFrom 120 = .ok (.iload 4, 2) := by decide +kernel
theorem d_O_findFieldFrom_122 : decode b_O_findFieldFrom 122 = .ok (.iconst 1, 1) := by decide +kernel
theorem d_O_findFieldFrom_123 : decode b_O_findFieldFrom 123 = .ok (.iadd, 1) := by decide +kernel
theorem d_O_findFieldFrom_124 : decode b_O_findFieldFrom 124 = .ok (.invokevirtual 60, 3) := by decide +kernel
theorem d_O_findFieldFrom_127 : decode b_O_findFieldFrom 127 = .ok (.ireturn, 1) := by decide +kernel
theorem d_O_findMethod_0 : decode b_O_findMethod 0 = .ok (.iload_n 1, 1) := by decide +kernel
theorem d_O_findMethod_1 : decode b_O_findMethod 1 = .ok (.istore 5, 2) := by decide +kernel
theorem d_O_findMethod_3 : decode b_O_findMethod 3 = .ok (.iconst 0, 1) := by decide +kernel
theorem d_O_findMethod_4 : decode b_O_findMethod 4 = .ok (.istore 6, 2) := by decide +kernel
theorem d_O_findMethod_6 : decode b_O_findMethod 6 = .ok (.iload 6, 2) := by decide +kernel
theorem d_O_findMethod_8 : decode b_O_findMethod 8 = .ok (.bipush 6, 2) := by decide +kernel
theorem d_O_findMethod_10 : decode b_O_findMethod 10 = .ok (.if_icmp .ge 48, 3) := by decide +kernel
theorem d_O_findMethod_13 : decode b_O_findMethod 13 = .ok (.iload 5, 2) := by decide +kernel
theorem d_O_findMethod_15 : decode b_O_findMethod 15 = .ok (.bipush 6, 2) := by decide +kernel
theorem d_O_findMethod_17 : decode b_O_findMethod 17 = .ok (.if_icmp .eq 41, 3) := by decide +kernel
theorem d_O_findMethod_20 : decode b_O_findMethod 20 = .ok (.iload 5, 2) := by decide +kernel
theorem d_O_findMethod_22 : decode b_O_findMethod 22 = .ok (.iload_n 2, 1) := by decide +kernel
theorem d_O_findMethod_23 : decode b_O_findMethod 23 = .ok (.iload_n 3, 1) := by decide +kernel
theorem d_O_findMethod_24 : decode b_O_findMethod 24 = .ok (.invokestatic 64, 3) := by decide +kernel
theorem d_O_findMethod_27 : decode b_O_findMethod 27 = .ok (.istore 7, 2) := by decide +kernel
theorem d_O_findMethod_29 : decode b_O_findMethod 29 = .ok (.aload_n 0, 1) := by decide +kernel
theorem d_O_findMethod_30 : decode b_O_findMethod 30 = .ok (.iload 7, 2) := by decide +kernel
theorem d_O_findMethod_32 : decode b_O_findMethod 32 = .ok (.iload 4, 2) := by decide +kernel
theorem d_O_findMethod_34 : decode b_O_findMethod 34 = .ok (.invokevirtual 68, 3) := by decide +kernel
theorem d_O_findMethod_37 : decode b_O_findMethod 37 = .ok (.ifCond .eq 6, 3) := by decide +kernel
theorem d_O_findMethod_40 : decode b_O_findMethod 40 = .ok (.iload 7, 2) := by decide +kernel
theorem d_O_findMethod_42 : decode b_O_findMethod 42 = .ok (.ireturn, 1) := by decide +kernel
theorem d_O_findMethod_43 : decode b_O_findMethod 43 = .ok (.aload_n 0, 1) := by decide +kernel
theorem d_O_findMethod_44 : decode b_O_findMethod 44 = .ok (.getfield 15, 3) := by decide +kernel
theorem d_O_findMethod_47 : decode b_O_findMethod 47 = .ok (.iload 5, 2) := by decide +kernel
theorem d_O_findMethod_49 : decode b_O_findMethod 49 = .ok (.iaload, 1) := by decide +kernel
theorem d_O_findMethod_50 : decode b_O_findMethod 50 = .ok (.istore 5, 2) := by decide +kernel
theorem d_O_findMethod_52 : decode b_O_findMethod 52 = .ok (.iinc 6 1, 3) := by decide +kernel
theorem d_O_findMethod_55 : decode b_O_findMethod 55 = .ok (.goto (-49), 3) := by decide +kernel
theorem d_O_findMethod_58 : decode b_O_findMethod 58 = .ok (.aload_n 0, 1) := by decide +kernel
theorem d_O_findMethod_59 : decode b_O_findMethod 59 = .ok (.iload_n 1, 1) := by decide +kernel
theorem d_O_findMethod_60 : decode b_O_findMethod 60 = .ok (.invokevirtual 71, 3) := by decide +kernel
theorem d_O_findMethod_63 : decode b_O_findMethod 63 = .ok (.istore 6, 2) := by decide +kernel
theorem d_O_findMethod_65 : decode b_O_findMethod 65 = .ok (.iconst 5, 1) := by decide +kernel
theorem d_O_findMethod_66 : decode b_O_findMethod 66 = .ok (.istore 7, 2) := by decide +kernel
theorem d_O_findMethod_68 : decode b_O_findMethod 68 = .ok (.iload 7, 2) := by decide +kernel
theorem d_O_findMethod_70 : decode b_O_findMethod 70 = .ok (.ifCond .lt 51, 3) := by decide +kernel
theorem d_O_findMethod_73 : decode b_O_findMethod 73 = .ok (.iload 7, 2) := by decide +kernel
theorem d_O_findMethod_75 : decode b_O_findMethod 75 = .ok (.iload_n 2, 1) := by decide +kernel
theorem d_O_findMethod_76 : decode b_O_findMethod 76 = .ok (.iload_n 3, 1) := by decide +kernel
theorem d_O_findMethod_77 : decode b_O_findMethod 77 = .ok (.invokestatic 64, 3) := by decide +kernel
theorem d_O_findMethod_80 : decode b_O_findMethod 80 = .ok (.istore 8, 2) := by decide +kernel
theorem d_O_findMethod_82 : decode b_O_findMethod 82 = .ok (.iload 6, 2) := by decide +kernel
theorem d_O_findMethod_84 : decode b_O_findMethod 84 = .ok (.iload 7, 2) := by decide +kernel
theorem d_O_findMethod_86 : decode b_O_findMethod 86 = .ok (.invokestatic 47, 3) := by decide +kernel
theorem d_O_findMethod_89 : decode b_O_findMethod 89 = .ok (.ifCond .eq 26, 3) := by decide +kernel
theorem d_O_findMethod_92 : decode b_O_findMethod 92 = .ok (.aload_n 0, 1) := by decide +kernel
theorem d_O_findMethod_93 : decode b_O_findMethod 93 = .ok (.iload 7, 2) := by decide +kernel
theorem d_O_findMethod_95 : decode b_O_findMethod 95 = .ok (.invokevirtual 44, 3) := by decide +kernel
theorem d_O_findMethod_98 : decode b_O_findMethod 98 = .ok (.ifCond .eq 17, 3) := by decide +kernel
theorem d_O_findMethod_101 : decode b_O_findMethod 101 = .ok (.aload_n 0, 1) := by decide +kernel
theorem d_O_findMethod_102 : decode b_O_findMethod 102 = .ok (.iload 8, 2) := by decide +kernel
theorem d_O_findMethod_104 : decode b_O_findMethod 104 = .ok (.iload 4, 2) := by decide +kernel
theorem d_O_findMethod_106 : decode b_O_findMethod 106 = .ok (.invokevirtual 68, 3) := by decide +kernel
theorem d_O_findMethod_109 : decode b_O_findMethod 109 = .ok (.ifCond .eq 6, 3) := by decide +kernel
theorem d_O_findMethod_112 : decode b_O_findMethod 112 = .ok (.iload 8, 2) := by decide +kernel
theorem d_O_findMethod_114 : decode b_O_findMethod 114 = .ok (.ireturn, 1) := by decide +kernel
theorem d_O_findMethod_115 : decode b_O_findMethod 115 = .ok (.iinc 7 (-1), 3) := by decide +kernel
theorem d_O_findMethod_118 : decode b_O_findMethod 118 = .ok (.goto (-50), 3) := by decide +kernel
theorem d_O_findMethod_121 : decode b_O_findMethod 121 = .ok (.iconst (-1), 1) := by decide +kernel
theorem d_O_findMethod_122 : decode b_O_findMethod 122 = .ok (.ireturn, 1) := by decide +kernel
theorem d_O_isMethodAt_0 : decode b_O_isMethodAt 0 = .ok (.aload_n 0, 1) := by decide +kernel
theorem d_O_isMethodAt_1 : decode b_O_isMethodAt 1 = .ok (.getfield 30, 3) := by decide +kernel
theorem d_O_isMethodAt_4 : decode b_O_isMethodAt 4 = .ok (.iload_n 1, 1) := by decide +kernel
theorem d_O_isMethodAt_5 : decode b_O_isMethodAt 5 = .ok (.iaload, 1) := by decide +kernel
theorem d_O_isMethodAt_6 : decode b_O_isMethodAt 6 = .ok (.iconst (-1), 1) := by decide +kernel
theorem d_O_isMethodAt_7 : decode b_O_isMethodAt 7 = .ok (.if_icmp .eq 22, 3) := by decide +kernel
theorem d_O_isMethodAt_10 : decode b_O_isMethodAt 10 = .ok (.iload_n 2, 1) := by decide +kernel
theorem d_O_isMethodAt_11 : decode b_O_isMethodAt 11 = .ok (.iconst (-1), 1) := by decide +kernel
theorem d_O_isMethodAt_12 : decode b_O_isMethodAt 12 = .ok (.if_icmp .eq 13, 3) := by decide +kernel
theorem d_O_isMethodAt_15 : decode b_O_isMethodAt 15 = .ok (.aload_n 0, 1) := by decide +kernel
theorem d_O_isMethodAt_16 : decode b_O_isMethodAt 16 = .ok (.getfield 33, 3) := by decide +kernel
theorem d_O_isMethodAt_19 : decode b_O_isMethodAt 19 = .ok (.iload_n 1, 1) := by decide +kernel
theorem d_O_isMethodAt_20 : decode b_O_isMethodAt 20 = .ok (.iaload, 1) := by decide +kernel
theorem d_O_isMethodAt_21 : decode b_O_isMethodAt 21 = .ok (.iload_n 2, 1) := by decide +kernel
theorem d_O_isMethodAt_22 : decode b_O_isMethodAt 22 = .ok (.if_icmp .ne 7, 3) := by decide +kernel
theorem d_O_isMethodAt_25 : decode b_O_isMethodAt 25 = .ok (.iconst 1, 1) := by decide +kernel
theorem d_O_isMethodAt_26 : decode b_O_isMethodAt 26 = .ok (.goto 4, 3) := by decide +kernel
theorem d_O_isMethodAt_29 : decode b_O_isMethodAt 29 = .ok (.iconst 0, 1) := by decide +kernel
theorem d_O_isMethodAt_30 : decode b_O_isMethodAt 30 = .ok (.ireturn, 1) := by decide +kernel
theorem d_O_differencesFrom_0 : decode b_O_differencesFrom 0 = .ok (.iconst 0, 1) := by decide +kernel
theorem d_O_differencesFrom_1 : decode b_O_differencesFrom 1 = .ok (.istore_n 3, 1) := by decide +kernel
theorem d_O_differencesFrom_2 : decode b_O_differencesFrom 2 = .ok (.aload_n 0, 1) := by decide +kernel
theorem d_O_differencesFrom_3 : decode b_O_differencesFrom 3 = .ok (.getfield 9, 3) := by decide +kernel
theorem d_O_differencesFrom_6 : decode b_O_differencesFrom 6 = .ok (.iload_n 2, 1) := by decide +kernel
theorem d_O_differencesFrom_7 : decode b_O_differencesFrom 7 = .ok (.iaload, 1) := by decide +kernel
theorem d_O_differencesFrom_8 : decode b_O_differencesFrom 8 = .ok (.aload_n 1, 1) := by decide +kernel
theorem d_O_differencesFrom_9 : decode b_O_differencesFrom 9 = .ok (.getfield 9, 3) := by decide +kernel
theorem d_O_differencesFrom_12 : decode b_O_differencesFrom 12 = .ok (.iload_n 2, 1) := by decide +kernel
theorem d_O_differencesFrom_13 : decode b_O_differencesFrom 13 = .ok (.iaload, 1) := by decide +kernel
theorem d_O_differencesFrom_14 : decode b_O_differencesFrom 14 = .ok (.if_icmp .eq 6, 3) := by decide +kernel
theorem d_O_differencesFrom_17 : decode b_O_differencesFrom 17 = .ok (.iinc 3 1, 3) := by decide +kernel
theorem d_O_differencesFrom_20 : decode b_O_differencesFrom 20 = .ok (.aload_n 0, 1) := by decide +kernel
theorem d_O_differencesFrom_21 : decode b_O_differencesFrom 21 = .ok (.getfield 15, 3) := by decide +kernel
theorem d_O_differencesFrom_24 : decode b_O_differencesFrom 24 = .ok (.iload_n 2, 1) := by decide +kernel
theorem d_O_differencesFrom_25 : decode b_O_differencesFrom 25 = .ok (.iaload, 1) := by decide +kernel
theorem d_O_differencesFrom_26 : decode b_O_differencesFrom 26 = .ok (.aload_n 1, 1) := by decide +kernel
theorem d_O_differencesFrom_27 : decode b_O_differencesFrom 27 = .ok (.getfield 15, 3) := by decide +kernel
theorem d_O_differencesFrom_30 : decode b_O_differencesFrom 30 = .ok (.iload_n 2, 1) := by decide +kernel
theorem d_O_differencesFrom_31 : decode b_O_differencesFrom 31 = .ok (.iaload, 1) := by decide +kernel
theorem d_O_differencesFrom_32 : decode b_O_differencesFrom 32 = .ok (.if_icmp .eq 6, 3) := by decide +kernel
theorem d_O_differencesFrom_35 : decode b_O_differencesFrom 35 = .ok (.iinc 3 1, 3) := by decide +kernel
theorem d_O_differencesFrom_38 : decode b_O_differencesFrom 38 = .ok (.aload_n 0, 1) := by decide +kernel
theorem d_O_differencesFrom_39 : decode b_O_differencesFrom 39 = .ok (.getfield 18, 3) := by decide +kernel
theorem d_O_differencesFrom_42 : decode b_O_differencesFrom 42 = .ok (.iload_n 2, 1) := by decide +kernel
theorem d_O_differencesFrom_43 : decode b_O_differencesFrom 43 = .ok (.iaload, 1) := by decide +kernel
theorem d_O_differencesFrom_44 : decode b_O_differencesFrom 44 = .ok (.aload_n 1, 1) := by decide +kernel
theorem d_O_differencesFrom_45 : decode b_O_differencesFrom 45 = .ok (.getfield 18, 3) := by decide +kernel
theorem d_O_differencesFrom_48 : decode b_O_differencesFrom 48 = .ok (.iload_n 2, 1) := by decide +kernel
theorem d_O_differencesFrom_49 : decode b_O_differencesFrom 49 = .ok (.iaload, 1) := by decide +kernel
theorem d_O_differencesFrom_50 : decode b_O_differencesFrom 50 = .ok (.if_icmp .eq 6, 3) := by decide +kernel
theorem d_O_differencesFrom_53 : decode b_O_differencesFrom 53 = .ok (.iinc 3 1, 3) := by decide +kernel
theorem d_O_differencesFrom_56 : decode b_O_differencesFrom 56 = .ok (.iconst 0, 1) := by decide +kernel
theorem d_O_differencesFrom_57 : decode b_O_differencesFrom 57 = .ok (.istore 4, 2) := by decide +kernel
theorem d_O_differencesFrom_59 : decode b_O_differencesFrom 59 = .ok (.iload 4, 2) := by decide +kernel
theorem d_O_differencesFrom_61 : decode b_O_differencesFrom 61 = .ok (.iconst 4, 1) := by decide +kernel
theorem d_O_differencesFrom_62 : decode b_O_differencesFrom 62 = .ok (.if_icmp .ge 26, 3) := by decide +kernel
theorem d_O_differencesFrom_65 : decode b_O_differencesFrom 65 = .ok (.aload_n 0, 1) := by decide +kernel
theorem d_O_differencesFrom_66 : decode b_O_differencesFrom 66 = .ok (.aload_n 1, 1) := by decide +kernel
theorem d_O_differencesFrom_67 : decode b_O_differencesFrom 67 = .ok (.iload_n 2, 1) := by decide +kernel
theorem d_O_differencesFrom_68 : decode b_O_differencesFrom 68 = .ok (.iconst 4, 1) := by decide +kernel
theorem d_O_differencesFrom_69 : decode b_O_differencesFrom 69 = .ok (.imul, 1) := by decide +kernel
theorem d_O_differencesFrom_70 : decode b_O_differencesFrom 70 = .ok (.iload 4, 2) := by decide +kernel
theorem d_O_differencesFrom_72 : decode b_O_differencesFrom 72 = .ok (.iadd, 1) := by decide +kernel
theorem d_O_differencesFrom_73 : decode b_O_differencesFrom 73 = .ok (.invokevirtual 75, 3) := by decide +kernel
theorem d_O_differencesFrom_76 : decode b_O_differencesFrom 76 = .ok (.ifCond .ne 6, 3) := by decide +kernel
theorem d_O_differencesFrom_79 : decode b_O_differencesFrom 79 = .ok (.iinc 3 1, 3) := by decide +kernel
theorem d_O_differencesFrom_82 : decode b_O_differencesFrom 82 = .ok (.iinc 4 1, 3) := by decide +kernel
theorem d_O_differencesFrom_85 : decode b_O_differencesFrom 85 = .ok (.goto (-26), 3) := by decide +kernel
theorem d_O_differencesFrom_88 : decode b_O_differencesFrom 88 = .ok (.iconst 0, 1) := by decide +kernel
theorem d_O_differencesFrom_89 : decode b_O_differencesFrom 89 = .ok (.istore 4, 2) := by decide +kernel
theorem d_O_differencesFrom_91 : decode b_O_differencesFrom 91 = .ok (.iload 4, 2) := by decide +kernel
theorem d_O_differencesFrom_93 : decode b_O_differencesFrom 93 = .ok (.bipush 12, 2) := by decide +kernel
theorem d_O_differencesFrom_95 : decode b_O_differencesFrom 95 = .ok (.if_icmp .ge 27, 3) := by decide +kernel
theorem d_O_differencesFrom_98 : decode b_O_differencesFrom 98 = .ok (.aload_n 0, 1) := by decide +kernel
theorem d_O_differencesFrom_99 : decode b_O_differencesFrom 99 = .ok (.aload_n 1, 1) := by decide +kernel
theorem d_O_differencesFrom_100 : decode b_O_differencesFrom 100 = .ok (.iload_n 2, 1) := by decide +kernel
theorem d_O_differencesFrom_101 : decode b_O_differencesFrom 101 = .ok (.bipush 12, 2) := by decide +kernel
theorem d_O_differencesFrom_103 : decode b_O_differencesFrom 103 = .ok (.imul, 1) := by decide +kernel
theorem d_O_differencesFrom_104 : decode b_O_differencesFrom 104 = .ok (.iload 4, 2) := by decide +kernel
theorem d_O_differencesFrom_106 : decode b_O_differencesFrom 106 = .ok (.iadd, 1) := by decide +kernel
theorem d_O_differencesFrom_107 : decode b_O_differencesFrom 107 = .ok (.invokevirtual 79, 3) := by decide +kernel
theorem d_O_differencesFrom_110 : decode b_O_differencesFrom 110 = .ok (.ifCond .ne 6, 3) := by decide +kernel
theorem d_O_differencesFrom_113 : decode b_O_differencesFrom 113 = .ok (.iinc 3 1, 3) := by decide +kernel
theorem d_O_differencesFrom_116 : decode b_O_differencesFrom 116 = .ok (.iinc 4 1, 3) := by decide +kernel
theorem d_O_differencesFrom_119 : decode b_O_differencesFrom 119 = .ok (.goto (-28), 3) := by decide +kernel
theorem d_O_differencesFrom_122 : decode b_O_differencesFrom 122 = .ok (.iload_n 3, 1) := by decide +kernel
theorem d_O_differencesFrom_123 : decode b_O_differencesFrom 123 = .ok (.ireturn, 1) := by decide +kernel
theorem d_O_isSameField_0 : decode b_O_isSameField 0 = .ok (.aload_n 0, 1) := by decide +kernel
theorem d_O_isSameField_1 : decode b_O_isSameField 1 = .ok (.getfield 21, 3) := by decide +kernel
theorem d_O_isSameField_4 : decode b_O_isSameField 4 = .ok (.iload_n 2, 1) := by decide +kernel
theorem d_O_isSameField_5 : decode b_O_isSameField 5 = .ok (.iaload, 1) := by decide +kernel
theorem d_O_isSameField_6 : decode b_O_isSameField 6 = .ok (.aload_n 1, 1) := by decide +kernel
theorem d_O_isSameField_7 : decode b_O_isSameField 7 = .ok (.getfield 21, 3) := by decide +kernel
theorem d_O_isSameField_10 : decode b_O_isSameField 10 = .ok (.iload_n 2, 1) := by decide +kernel
theorem d_O_isSameField_11 : decode b_O_isSameField 11 = .ok (.iaload, 1) := by decide +kernel
theorem d_O_isSameField_12 : decode b_O_isSameField 12 = .ok (.if_icmp .eq 5, 3) := by decide +kernel
theorem d_O_isSameField_15 : decode b_O_isSameField 15 = .ok (.iconst 0, 1) := by decide +kernel
theorem d_O_isSameField_16 : decode b_O_isSameField 16 = .ok (.ireturn, 1) := by decide +kernel
theorem d_O_isSameField_17 : decode b_O_isSameField 17 = .ok (.aload_n 0, 1) := by decide +kernel
theorem d_O_isSameField_18 : decode b_O_isSameField 18 = .ok (.getfield 21, 3) := by decide +kernel
theorem d_O_isSameField_21 : decode b_O_isSameField 21 = .ok (.iload_n 2, 1) := by decide +kernel
theorem d_O_isSameField_22 : decode b_O_isSameField 22 = .ok (.iaload, 1) := by decide +kernel
theorem d_O_isSameField_23 : decode b_O_isSameField 23 = .ok (.iconst (-1), 1) := by decide +kernel
theorem d_O_isSameField_24 : decode b_O_isSameField 24 = .ok (.if_icmp .ne 5, 3) := by decide +kernel
theorem d_O_isSameField_27 : decode b_O_isSameField 27 = .ok (.iconst 1, 1) := by decide +kernel
theorem d_O_isSameField_28 : decode b_O_isSameField 28 = .ok (.ireturn, 1) := by decide +kernel
theorem d_O_isSameField_29 : decode b_O_isSameField 29 = .ok (.aload_n 0, 1) := by decide +kernel
theorem d_O_isSameField_30 : decode b_O_isSameField 30 = .ok (.getfield 24, 3) := by decide +kernel
theorem d_O_isSameField_33 : decode b_O_isSameField 33 = .ok (.iload_n 2, 1) := by decide +kernel
theorem d_O_isSameField_34 : decode b_O_isSameField 34 = .ok (.iaload, 1) := by decide +kernel
theorem d_O_isSameField_35 : decode b_O_isSameField 35 = .ok (.aload_n 1, 1) := by decide +kernel
theorem d_O_isSameField_36 : decode b_O_isSameField 36 = .ok (.getfield 24, 3) := by decide +kernel
theorem d_O_isSameField_39 : decode b_O_isSameField 39 = .ok (.iload_n 2, 1) := by decide +kernel
theorem d_O_isSameField_40 : decode b_O_isSameField 40 = .ok (.iaload, 1) := by decide +kernel
theorem d_O_isSameField_41 : decode b_O_isSameField 41 = .ok (.if_icmp .ne 22, 3) := by decide +kernel
theorem d_O_isSameField_44 : decode b_O_isSameField 44 = .ok (.aload_n 0, 1) := by decide +kernel
theorem d_O_isSameField_45 : decode b_O_isSameField 45 = .ok (.getfield 27, 3) := by decide +kernel
theorem d_O_isSameField_48 : decode b_O_isSameField 48 = .ok (.iload_n 2, 1) := by decide +kernel
theorem d_O_isSameField_49 : decode b_O_isSameField 49 = .ok (.iaload, 1) := by decide +kernel
theorem d_O_isSameField_50 : decode b_O_isSameField 50 = .ok (.aload_n 1, 1) := by decide +kernel
theorem d_O_isSameField_51 : decode b_O_isSameField 51 = .ok (.getfield 27, 3) := by decide +kernel
theorem d_O_isSameField_54 : decode b_O_isSameField 54 = .ok (.iload_n 2, 1) := by decide +kernel
theorem d_O_isSameField_55 : decode b_O_isSameField 55 = .ok (.iaload, 1) := by decide +kernel
theorem d_O_isSameField_56 : decode b_O_isSameField 56 = .ok (.if_icmp .ne 7, 3) := by decide +kernel
theorem d_O_isSameField_59 : decode b_O_isSameField 59 = .ok (.iconst 1, 1) := by decide +kernel
theorem d_O_isSameField_60 : decode b_O_isSameField 60 = .ok (.goto 4, 3) := by decide +kernel
theorem d_O_isSameField_63 : decode b_O_isSameField 63 = .ok (.iconst 0, 1) := by decide +kernel
theorem d_O_isSameField_64 : decode b_O_isSameField 64 = .ok (.ireturn, 1) := by decide +kernel
theorem d_O_isSameMethod_0 : decode b_O_isSameMethod 0 = .ok (.aload_n 0, 1) := by decide +kernel
theorem d_O_isSameMethod_1 : decode b_O_isSameMethod 1 = .ok (.getfield 30, 3) := by decide +kernel
theorem d_O_isSameMethod_4 : decode b_O_isSameMethod 4 = .ok (.iload_n 2, 1) := by decide +kernel
theorem d_O_isSameMethod_5 : decode b_O_isSameMethod 5 = .ok (.iaload, 1) := by decide +kernel
theorem d_O_isSameMethod_6 : decode b_O_isSameMethod 6 = .ok (.aload_n 1, 1) := by decide +kernel
theorem d_O_isSameMethod_7 : decode b_O_isSameMethod 7 = .ok (.getfield 30, 3) := by decide +kernel
theorem d_O_isSameMethod_10 : decode b_O_isSameMethod 10 = .ok (.iload_n 2, 1) := by decide +kernel
theorem d_O_isSameMethod_11 : decode b_O_isSameMethod 11 = .ok (.iaload, 1) := by decide +kernel
theorem d_O_isSameMethod_12 : decode b_O_isSameMethod 12 = .ok (.if_icmp .eq 5, 3) := by decide +kernel
theorem d_O_isSameMethod_15 : decode b_O_isSameMethod 15 = .ok (.iconst 0, 1) := by decide +kernel
theorem d_O_isSameMethod_16 : decode b_O_isSameMethod 16 = .ok (.ireturn, 1) := by decide +kernel
theorem d_O_isSameMethod_17 : decode b_O_isSameMethod 17 = .ok (.aload_n 0, 1) := by decide +kernel
theorem d_O_isSameMethod_18 : decode b_O_isSameMethod 18 = .ok (.getfield 30, 3) := by decide +kernel
theorem d_O_isSameMethod_21 : decode b_O_isSameMethod 21 = .ok (.iload_n 2, 1) := by decide +kernel
theorem d_O_isSameMethod_22 : decode b_O_isSameMethod 22 = .ok (.iaload, 1) := by decide +kernel
theorem d_O_isSameMethod_23 : decode b_O_isSameMethod 23 = .ok (.iconst (-1), 1) := by decide +kernel
theorem d_O_isSameMethod_24 : decode b_O_isSameMethod 24 = .ok (.if_icmp .eq 18, 3) := by decide +kernel
theorem d_O_isSameMethod_27 : decode b_O_isSameMethod 27 = .ok (.aload_n 0, 1) := by decide +kernel
theorem d_O_isSameMethod_28 : decode b_O_isSameMethod 28 = .ok (.getfield 33, 3) := by decide +kernel
theorem d_O_isSameMethod_31 : decode b_O_isSameMethod 31 = .ok (.iload_n 2, 1) := by decide +kernel
theorem d_O_isSameMethod_32 : decode b_O_isSameMethod 32 = .ok (.iaload, 1) := by decide +kernel
theorem d_O_isSameMethod_33 : decode b_O_isSameMethod 33 = .ok (.aload_n 1, 1) := by decide +kernel
theorem d_O_isSameMethod_34 : decode b_O_isSameMethod 34 = .ok (.getfield 33, 3) := by decide +kernel
theorem d_O_isSameMethod_37 : decode b_O_isSameMethod 37 = .ok (.iload_n 2, 1) := by decide +kernel
theorem d_O_isSameMethod_38 : decode b_O_isSameMethod 38 = .ok (.iaload, 1) := by decide +kernel
theorem d_O_isSameMethod_39 : decode b_O_isSameMethod 39 = .ok (.if_icmp .ne 7, 3) := by decide +kernel
theorem d_O_isSameMethod_42 : decode b_O_isSameMethod 42 = .ok (.iconst 1, 1) := by decide +kernel
theorem d_O_isSameMethod_43 : decode b_O_isSameMethod 43 = .ok (.goto 4, 3) := by decide +kernel
theorem d_O_isSameMethod_46 : decode b_O_isSameMethod 46 = .ok (.iconst 0, 1) := by decide +kernel
theorem d_O_isSameMethod_47 : decode b_O_isSameMethod 47 = .ok (.ireturn, 1) := by decide +kernel
theorem d_U_init_0 : decode b_U_init 0 = .ok (.aload_n 0, 1) := by decide +kernel
theorem d_U_init_1 : decode b_U_init 1 = .ok (.invokespecial 1, 3) := by decide +kernel
theorem d_U_init_4 : decode b_U_init 4 = .ok (.return_, 1) := by decide +kernel
theorem d_U_tell_0 : decode b_U_tell 0 = .ok (.aload_n 0, 1) := by decide +kernel
theorem d_U_tell_1 : decode b_U_tell 1 = .ok (.iload_n 1, 1) := by decide +kernel
theorem d_U_tell_2 : decode b_U_tell 2 = .ok (.putfield 7, 3) := by decide +kernel
theorem d_U_tell_5 : decode b_U_tell 5 = .ok (.aload_n 0, 1) := by decide +kernel
theorem d_U_tell_6 : decode b_U_tell 6 = .ok (.iload_n 2, 1) := by decide +kernel
theorem d_U_tell_7 : decode b_U_tell 7 = .ok (.putfield 13, 3) := by decide +kernel
theorem d_U_tell_10 : decode b_U_tell 10 = .ok (.aload_n 0, 1) := by decide +kernel
theorem d_U_tell_11 : decode b_U_tell 11 = .ok (.iload_n 3, 1) := by decide +kernel
theorem d_U_tell_12 : decode b_U_tell 12 = .ok (.putfield 16, 3) := by decide +kernel
theorem d_U_tell_15 : decode b_U_tell 15 = .ok (.aload_n 0, 1) := by decide +kernel
theorem d_U_tell_16 : decode b_U_tell 16 = .ok (.iload 4, 2) := by decide +kernel
theorem d_U_tell_18 : decode b_U_tell 18 = .ok (.putfield 19, 3) := by decide +kernel
theorem d_U_tell_21 : decode b_U_tell 21 = .ok (.return_, 1) := by decide +kernel
theorem d_L_law_0 : decode code 0 = .ok (.new 7, 3) := by decide +kernel
theorem d_L_law_3 : decode code 3 = .ok (.dup, 1) := by decide +kernel
theorem d_L_law_4 : decode code 4 = .ok (.invokespecial 9, 3) := by decide +kernel
theorem d_L_law_7 : decode code 7 = .ok (.astore_n 1, 1) := by decide +kernel
theorem d_L_law_8 : decode code 8 = .ok (.new 10, 3) := by decide +kernel
theorem d_L_law_11 : decode code 11 = .ok (.dup, 1) := by decide +kernel
theorem d_L_law_12 : decode code 12 = .ok (.invokespecial 12, 3) := by decide +kernel
theorem d_L_law_15 : decode code 15 = .ok (.astore_n 2, 1) := by decide +kernel
theorem d_L_law_16 : decode code 16 = .ok (.iconst 0, 1) := by decide +kernel
theorem d_L_law_17 : decode code 17 = .ok (.istore_n 3, 1) := by decide +kernel
theorem d_L_law_18 : decode code 18 = .ok (.iload_n 3, 1) := by decide +kernel
theorem d_L_law_19 : decode code 19 = .ok (.aload_n 0, 1) := by decide +kernel
theorem d_L_law_20 : decode code 20 = .ok (.arraylength, 1) := by decide +kernel
theorem d_L_law_21 : decode code 21 = .ok (.bipush 6, 2) := by decide +kernel
theorem d_L_law_23 : decode code 23 = .ok (.isub, 1) := by decide +kernel
theorem d_L_law_24 : decode code 24 = .ok (.if_icmp .gt 735, 3) := by decide +kernel
theorem d_L_law_27 : decode code 27 = .ok (.aload_n 0, 1) := by decide +kernel
theorem d_L_law_28 : decode code 28 = .ok (.iload_n 3, 1) := by decide +kernel
theorem d_L_law_29 : decode code 29 = .ok (.iaload, 1) := by decide +kernel
theorem d_L_law_30 : decode code 30 = .ok (.bipush 31, 2) := by decide +kernel
theorem d_L_law_32 : decode code 32 = .ok (.iand, 1) := by decide +kernel
theorem d_L_law_33 : decode code 33 = .ok (.tableswitch 720 0 16 #[83, 146, 179, 232, 285, 338, 351, 404, 437, 460, 483, 544, 585, 598, 621, 644, 687], 83) := by decide +kernel
theorem d_L_law_116 : decode code 116 = .ok (.aload_n 1, 1) := by decide +kernel
theorem d_L_law_117 : decode code 117 = .ok (.aload_n 0, 1) := by decide +kernel
theorem d_L_law_118 : decode code 118 = .ok (.iload_n 3, 1) := by decide +kernel
theorem d_L_law_119 : decode code 119 = .ok (.iconst 1, 1) := by decide +kernel
theorem d_L_law_120 : decode code 120 = .ok (.iadd, 1) := by decide +kernel
theorem d_L_law_121 : decode code 121 = .ok (.iaload, 1) := by decide +kernel
theorem d_L_law_122 : decode code 122 = .ok (.aload_n 0, 1) := by decide +kernel
theorem d_L_law_123 : decode code 123 = .ok (.iload_n 3, 1) := by decide +kernel
theorem d_L_law_124 : decode code 124 = .ok (.iconst 2, 1) := by decide +kernel
theorem d_L_law_125 : decode code 125 = .ok (.iadd, 1) := by decide +kernel
theorem d_L_law_126 : decode code 126 = .ok (.iaload, 1) := by decide +kernel
theorem d_L_law_127 : decode code 127 = .ok (.aload_n 0, 1) := by decide +kernel
theorem d_L_law_128 : decode code 128 = .ok (.iload_n 3, 1) := by decide +kernel
theorem d_L_law_129 : decode code 129 = .ok (.iconst 3, 1) := by decide +kernel
theorem d_L_law_130 : decode code 130 = .ok (.iadd, 1) := by decide +kernel
theorem d_L_law_131 : decode code 131 = .ok (.iaload, 1) := by decide +kernel
theorem d_L_law_132 : decode code 132 = .ok (.aload_n 0, 1) := by decide +kernel
theorem d_L_law_133 : decode code 133 = .ok (.iload_n 3, 1) := by decide +kernel
theorem d_L_law_134 : decode code 134 = .ok (.iconst 4, 1) := by decide +kernel
theorem d_L_law_135 : decode code 135 = .ok (.iadd, 1) := by decide +kernel
theorem d_L_law_136 : decode code 136 = .ok (.iaload, 1) := by decide +kernel
theorem d_L_law_137 : decode code 137 = .ok (.aload_n 0, 1) := by decide +kernel
theorem d_L_law_138 : decode code 138 = .ok (.iload_n 3, 1) := by decide +kernel
theorem d_L_law_139 : decode code 139 = .ok (.iconst 5, 1) := by decide +kernel
theorem d_L_law_140 : decode code 140 = .ok (.iadd, 1) := by decide +kernel
theorem d_L_law_141 : decode code 141 = .ok (.iaload, 1) := by decide +kernel
theorem d_L_law_142 : decode code 142 = .ok (.invokevirtual 13, 3) := by decide +kernel
theorem d_L_law_145 : decode code 145 = .ok (.aload_n 2, 1) := by decide +kernel
theorem d_L_law_146 : decode code 146 = .ok (.aload_n 0, 1) := by decide +kernel
theorem d_L_law_147 : decode code 147 = .ok (.iload_n 3, 1) := by decide +kernel
theorem d_L_law_148 : decode code 148 = .ok (.iconst 1, 1) := by decide +kernel
theorem d_L_law_149 : decode code 149 = .ok (.iadd, 1) := by decide +kernel
theorem d_L_law_150 : decode code 150 = .ok (.iaload, 1) := by decide +kernel
theorem d_L_law_151 : decode code 151 = .ok (.aload_n 0, 1) := by decide +kernel
theorem d_L_law_152 : decode code 152 = .ok (.iload_n 3, 1) := by decide +kernel
theorem d_L_law_153 : decode code 153 = .ok (.iconst 2, 1) := by decide +kernel
theorem d_L_law_154 : decode code 154 = .ok (.iadd, 1) := by decide +kernel
theorem d_L_law_155 : decode code 155 = .ok (.iaload, 1) := by decide +kernel
theorem d_L_law_156 : decode code 156 = .ok (.aload_n 0, 1) := by decide +kernel
theorem d_L_law_157 : decode code 157 = .ok (.iload_n 3, 1) := by decide +kernel
theorem d_L_law_158 : decode code 158 = .ok (.iconst 3, 1) := by decide +kernel
theorem d_L_law_159 : decode code 159 = .ok (.iadd, 1) := by decide +kernel
theorem d_L_law_160 : decode code 160 = .ok (.iaload, 1) := by decide +kernel
theorem d_L_law_161 : decode code 161 = .ok (.aload_n 0, 1) := by decide +kernel
theorem d_L_law_162 : decode code 162 = .ok (.iload_n 3, 1) := by decide +kernel
theorem d_L_law_163 : decode code 163 = .ok (.iconst 4, 1) := by decide +kernel
theorem d_L_law_164 : decode code 164 = .ok (.iadd, 1) := by decide +kernel
theorem d_L_law_165 : decode code 165 = .ok (.iaload, 1) := by decide +kernel
theorem d_L_law_166 : decode code 166 = .ok (.aload_n 0, 1) := by decide +kernel
theorem d_L_law_167 : decode code 167 = .ok (.iload_n 3, 1) := by decide +kernel
theorem d_L_law_168 : decode code 168 = .ok (.iconst 5, 1) := by decide +kernel
theorem d_L_law_169 : decode code 169 = .ok (.iadd, 1) := by decide +kernel
theorem d_L_law_170 : decode code 170 = .ok (.iaload, 1) := by decide +kernel
theorem d_L_law_171 : decode code 171 = .ok (.invokevirtual 17, 3) := by decide +kernel
theorem d_L_law_174 : decode code 174 = .ok (.if_icmp .eq 579, 3) := by decide +kernel
theorem d_L_law_177 : decode code 177 = .ok (.iconst 0, 1) := by decide +kernel
theorem d_L_law_178 : decode code 178 = .ok (.ireturn, 1) := by decide +kernel
theorem d_L_law_179 : decode code 179 = .ok (.aload_n 1, 1) := by decide +kernel
theorem d_L_law_180 : decode code 180 = .ok (.aload_n 0, 1) := by decide +kernel
theorem d_L_law_181 : decode code 181 = .ok (.iload_n 3, 1) := by decide +kernel
theorem d_L_law_182 : decode code 182 = .ok (.iconst 1, 1) := by decide +kernel
theorem d_L_law_183 : decode code 183 = .ok (.iadd, 1) := by decide +kernel
theorem d_L_law_184 : decode code 184 = .ok (.iaload, 1) := by decide +kernel
theorem d_L_law_185 : decode code 185 = .ok (.aload_n 0, 1) := by decide +kernel
theorem d_L_law_186 : decode code 186 = .ok (.iload_n 3, 1) := by decide +kernel
theorem d_L_law_187 : decode code 187 = .ok (.iconst 2, 1) := by decide +kernel
theorem d_L_law_188 : decode code 188 = .ok (.iadd, 1) := by decide +kernel
theorem d_L_law_189 : decode code 189 = .ok (.iaload, 1) := by decide +kernel
theorem d_L_law_190 : decode code 190 = .ok (.invokevirtual 18, 3) := by decide +kernel
theorem d_L_law_193 : decode code 193 = .ok (.aload_n 2, 1) := by decide +kernel
theorem d_L_law_194 : decode code 194 = .ok (.aload_n 0, 1) := by decide +kernel
theorem d_L_law_195 : decode code 195 = .ok (.iload_n 3, 1) := by decide +kernel
theorem d_L_law_196 : decode code 196 = .ok (.iconst 1, 1) := by decide +kernel
theorem d_L_law_197 : decode code 197 = .ok (.iadd, 1) := by decide +kernel
theorem d_L_law_198 : decode code 198 = .ok (.iaload, 1) := by decide +kernel
theorem d_L_law_199 : decode code 199 = .ok (.aload_n 0, 1) := by decide +kernel
theorem d_L_law_200 : decode code 200 = .ok (.iload_n 3, 1) := by decide +kernel
theorem d_L_law_201 : decode code 201 = .ok (.iconst 2, 1) := by decide +kernel
theorem d_L_law_202 : decode code 202 = .ok (.iadd, 1) := by decide +kernel
theorem d_L_law_203 : decode code 203 = .ok (.iaload, 1) := by decide +kernel
theorem d_L_law_204 : decode code 204 = .ok (.invokevirtual 22, 3) := by decide +kernel
theorem d_L_law_207 : decode code 207 = .ok (.if_icmp .eq 546, 3) := by decide +kernel
theorem d_L_law_210 : decode code 210 = .ok (.iconst 0, 1) := by decide +kernel
theorem d_L_law_211 : decode code 211 = .ok (.ireturn, 1) := by decide +kernel
theorem d_L_law_212 : decode code 212 = .ok (.aload_n 1, 1) := by decide +kernel
theorem d_L_law_213 : decode code 213 = .ok (.aload_n 0, 1) := by decide +kernel
theorem d_L_law_214 : decode code 214 = .ok (.iload_n 3, 1) := by decide +kernel
theorem d_L_law_215 : decode code 215 = .ok (.iconst 1, 1) := by decide +kernel
theorem d_L_law_216 : decode code 216 = .ok (.iadd, 1) := by decide +kernel
theorem d_L_law_217 : decode code 217 = .ok (.iaload, 1) := by decide +kernel
theorem d_L_law_218 : decode code 218 = .ok (.aload_n 0, 1) := by decide +kernel
theorem d_L_law_219 : decode code 219 = .ok (.iload_n 3, 1) := by decide +kernel
theorem d_L_law_220 : decode code 220 = .ok (.iconst 2, 1) := by decide +kernel
theorem d_L_law_221 : decode code 221 = .ok (.iadd, 1) := by decide +kernel
theorem d_L_law_222 : decode code 222 = .ok (.iaload, 1) := by decide +kernel
theorem d_L_law_223 : decode code 223 = .ok (.aload_n 0, 1) := by decide +kernel
theorem d_L_law_224 : decode code 224 = .ok (.iload_n 3, 1) := by decide +kernel
theorem d_L_law_225 : decode code 225 = .ok (.iconst 3, 1) := by decide +kernel
theorem d_L_law_226 : decode code 226 = .ok (.iadd, 1) := by decide +kernel
theorem d_L_law_227 : decode code 227 = .ok (.iaload, 1) := by decide +kernel
theorem d_L_law_228 : decode code 228 = .ok (.aload_n 0, 1) := by decide +kernel
theorem d_L_law_229 : decode code 229 = .ok (.iload_n 3, 1) := by decide +kernel
theorem d_L_law_230 : decode code 230 = .ok (.iconst 4, 1) := by decide +kernel
theorem d_L_law_231 : decode code 231 = .ok (.iadd, 1) := by decide +kernel
theorem d_L_law_232 : decode code 232 = .ok (.iaload, 1) := by decide +kernel
theorem d_L_law_233 : decode code 233 = .ok (.invokevirtual 23, 3) := by decide +kernel
theorem d_L_law_236 : decode code 236 = .ok (.aload_n 2, 1) := by decide +kernel
theorem d_L_law_237 : decode code 237 = .ok (.aload_n 0, 1) := by decide +kernel
theorem d_L_law_238 : decode code 238 = .ok (.iload_n 3, 1) := by decide +kernel
theorem d_L_law_239 : decode code 239 = .ok (.iconst 1, 1) := by decide +kernel
theorem d_L_law_240 : decode code 240 = .ok (.iadd, 1) := by decide +kernel
theorem d_L_law_241 : decode code 241 = .ok (.iaload, 1) := by decide +kernel
theorem d_L_law_242 : decode code 242 = .ok (.aload_n 0, 1) := by decide +kernel
theorem d_L_law_243 : decode code 243 = .ok (.iload_n 3, 1) := by decide +kernel
theorem d_L_law_244 : decode code 244 = .ok (.iconst 2, 1) := by decide +kernel
theorem d_L_law_245 : decode code 245 = .ok (.iadd, 1) := by decide +kernel
theorem d_L_law_246 : decode code 246 = .ok (.iaload, 1) := by decide +kernel
theorem d_L_law_247 : decode code 247 = .ok (.aload_n 0, 1) := by decide +kernel
theorem d_L_law_248 : decode code 248 = .ok (.iload_n 3, 1) := by decide +kernel
theorem d_L_law_249 : decode code 249 = .ok (.iconst 3, 1) := by decide +kernel
theorem d_L_law_250 : decode code 250 = .ok (.iadd, 1) := by decide +kernel
theorem d_L_law_251 : decode code 251 = .ok (.iaload, 1) := by decide +kernel
theorem d_L_law_252 : decode code 252 = .ok (.aload_n 0, 1) := by decide +kernel
theorem d_L_law_253 : decode code 253 = .ok (.iload_n 3, 1) := by decide +kernel
theorem d_L_law_254 : decode code 254 = .ok (.iconst 4, 1) := by decide +kernel
theorem d_L_law_255 : decode code 255 = .ok (.iadd, 1) := by decide +kernel
theorem d_L_law_256 : decode code 256 = .ok (.iaload, 1) := by decide +kernel
theorem d_L_law_257 : decode code 257 = .ok (.invokevirtual 27, 3) := by decide +kernel
theorem d_L_law_260 : decode code 260 = .ok (.if_icmp .eq 493, 3) := by decide +kernel
theorem d_L_law_263 : decode code 263 = .ok (.iconst 0, 1) := by decide +kernel
theorem d_L_law_264 : decode code 264 = .ok (.ireturn, 1) := by decide +kernel
theorem d_L_law_265 : decode code 265 = .ok (.aload_n 1, 1) := by decide +kernel
theorem d_L_law_266 : decode code 266 = .ok (.aload_n 0, 1) := by decide +kernel
theorem d_L_law_267 : decode code 267 = .ok (.iload_n 3, 1) := by decide +kernel
theorem d_L_law_268 : decode code 268 = .ok (.iconst 1, 1) := by decide +kernel
theorem d_L_law_269 : decode code 269 = .ok (.iadd, 1) := by decide +kernel
theorem d_L_law_270 : decode code 270 = .ok (.iaload, 1) := by decide +kernel
theorem d_L_law_271 : decode code 271 = .ok (.aload_n 0, 1) := by decide +kernel
theorem d_L_law_272 : decode code 272 = .ok (.iload_n 3, 1) := by decide +kernel
theorem d_L_law_273 : decode code 273 = .ok (.iconst 2, 1) := by decide +kernel
theorem d_L_law_274 : decode code 274 = .ok (.iadd, 1) := by decide +kernel
theorem d_L_law_275 : decode code 275 = .ok (.iaload, 1) := by decide +kernel
end
section
theorem d_L_law_276 : decode code 276 = .ok (.aload_n 0, 1) := by decide +kernel
theorem d_L_law_277 : decode code 277 = .ok (.iload_n 3, 1) := by decide +kernel
theorem d_L_law_278 : decode code 278 = .ok (.iconst 3, 1) := by decide +kernel
theorem d_L_law_279 : decode code 279 = .ok (.iadd, 1) := by decide +kernel
theorem d_L_law_280 : decode code 280 = .ok (.iaload, 1) := by decide +kernel
theorem d_L_law_281 : decode code 281 = .ok (.aload_n 0, 1) := by decide +kernel
theorem d_L_law_282 : decode code 282 = .ok (.iload_n 3, 1) := by decide +kernel
theorem d_L_law_283 : decode code 283 = .ok (.iconst 4, 1) := by decide +kernel
theorem d_L_law_284 : decode code 284 = .ok (.iadd, 1) := by decide +kernel
theorem d_L_law_285 : decode code 285 = .ok (.iaload, 1) := by decide +kernel
theorem d_L_law_286 : decode code 286 = .ok (.invokevirtual 28, 3) := by decide +kernel
theorem d_L_law_289 : decode code 289 = .ok (.aload_n 2, 1) := by decide +kernel
theorem d_L_law_290 : decode code 290 = .ok (.aload_n 0, 1) := by decide +kernel
theorem d_L_law_291 : decode code 291 = .ok (.iload_n 3, 1) := by decide +kernel
theorem d_L_law_292 : decode code 292 = .ok (.iconst 1, 1) := by decide +kernel
theorem d_L_law_293 : decode code 293 = .ok (.iadd, 1) := by decide +kernel
theorem d_L_law_294 : decode code 294 = .ok (.iaload, 1) := by decide +kernel
theorem d_L_law_295 : decode code 295 = .ok (.aload_n 0, 1) := by decide +kernel
theorem d_L_law_296 : decode code 296 = .ok (.iload_n 3, 1) := by decide +kernel
theorem d_L_law_297 : decode code 297 = .ok (.iconst 2, 1) := by decide +kernel
theorem d_L_law_298 : decode code 298 = .ok (.iadd, 1) := by decide +kernel
theorem d_L_law_299 : decode code 299 = .ok (.iaload, 1) := by decide +kernel
theorem d_L_law_300 : decode code 300 = .ok (.aload_n 0, 1) := by decide +kernel
theorem d_L_law_301 : decode code 301 = .ok (.iload_n 3, 1) := by decide +kernel
theorem d_L_law_302 : decode code 302 = .ok (.iconst 3, 1) := by decide +kernel
theorem d_L_law_303 : decode code 303 = .ok (.iadd, 1) := by decide +kernel
theorem d_L_law_304 : decode code 304 = .ok (.iaload, 1) := by decide +kernel
theorem d_L_law_305 : decode code 305 = .ok (.aload_n 0, 1) := by decide +kernel
theorem d_L_law_306 : decode code 306 = .ok (.iload_n 3, 1) := by decide +kernel
theorem d_L_law_307 : decode code 307 = .ok (.iconst 4, 1) := by decide +kernel
theorem d_L_law_308 : decode code 308 = .ok (.iadd, 1) := by decide +kernel
theorem d_L_law_309 : decode code 309 = .ok (.iaload, 1) := by decide +kernel
theorem d_L_law_310 : decode code 310 = .ok (.invokevirtual 31, 3) := by decide +kernel
theorem d_L_law_313 : decode code 313 = .ok (.if_icmp .eq 440, 3) := by decide +kernel
theorem d_L_law_316 : decode code 316 = .ok (.iconst 0, 1) := by decide +kernel
theorem d_L_law_317 : decode code 317 = .ok (.ireturn, 1) := by decide +kernel
theorem d_L_law_318 : decode code 318 = .ok (.aload_n 1, 1) := by decide +kernel
theorem d_L_law_319 : decode code 319 = .ok (.aload_n 0, 1) := by decide +kernel
theorem d_L_law_320 : decode code 320 = .ok (.iload_n 3, 1) := by decide +kernel
theorem d_L_law_321 : decode code 321 = .ok (.iconst 1, 1) := by decide +kernel
theorem d_L_law_322 : decode code 322 = .ok (.iadd, 1) := by decide +kernel
theorem d_L_law_323 : decode code 323 = .ok (.iaload, 1) := by decide +kernel
theorem d_L_law_324 : decode code 324 = .ok (.aload_n 0, 1) := by decide +kernel
theorem d_L_law_325 : decode code 325 = .ok (.iload_n 3, 1) := by decide +kernel
theorem d_L_law_326 : decode code 326 = .ok (.iconst 2, 1) := by decide +kernel
theorem d_L_law_327 : decode code 327 = .ok (.iadd, 1) := by decide +kernel
theorem d_L_law_328 : decode code 328 = .ok (.iaload, 1) := by decide +kernel
theorem d_L_law_329 : decode code 329 = .ok (.aload_n 0, 1) := by decide +kernel
theorem d_L_law_330 : decode code 330 = .ok (.iload_n 3, 1) := by decide +kernel
theorem d_L_law_331 : decode code 331 = .ok (.iconst 3, 1) := by decide +kernel
theorem d_L_law_332 : decode code 332 = .ok (.iadd, 1) := by decide +kernel
theorem d_L_law_333 : decode code 333 = .ok (.iaload, 1) := by decide +kernel
theorem d_L_law_334 : decode code 334 = .ok (.aload_n 0, 1) := by decide +kernel
theorem d_L_law_335 : decode code 335 = .ok (.iload_n 3, 1) := by decide +kernel
theorem d_L_law_336 : decode code 336 = .ok (.iconst 4, 1) := by decide +kernel
theorem d_L_law_337 : decode code 337 = .ok (.iadd, 1) := by decide +kernel
theorem d_L_law_338 : decode code 338 = .ok (.iaload, 1) := by decide +kernel
theorem d_L_law_339 : decode code 339 = .ok (.invokevirtual 32, 3) := by decide +kernel
theorem d_L_law_342 : decode code 342 = .ok (.aload_n 2, 1) := by decide +kernel
theorem d_L_law_343 : decode code 343 = .ok (.aload_n 0, 1) := by decide +kernel
theorem d_L_law_344 : decode code 344 = .ok (.iload_n 3, 1) := by decide +kernel
theorem d_L_law_345 : decode code 345 = .ok (.iconst 1, 1) := by decide +kernel
theorem d_L_law_346 : decode code 346 = .ok (.iadd, 1) := by decide +kernel
theorem d_L_law_347 : decode code 347 = .ok (.iaload, 1) := by decide +kernel
theorem d_L_law_348 : decode code 348 = .ok (.aload_n 0, 1) := by decide +kernel
theorem d_L_law_349 : decode code 349 = .ok (.iload_n 3, 1) := by decide +kernel
theorem d_L_law_350 : decode code 350 = .ok (.iconst 2, 1) := by decide +kernel
theorem d_L_law_351 : decode code 351 = .ok (.iadd, 1) := by decide +kernel
theorem d_L_law_352 : decode code 352 = .ok (.iaload, 1) := by decide +kernel
theorem d_L_law_353 : decode code 353 = .ok (.aload_n 0, 1) := by decide +kernel
theorem d_L_law_354 : decode code 354 = .ok (.iload_n 3, 1) := by decide +kernel
theorem d_L_law_355 : decode code 355 = .ok (.iconst 3, 1) := by decide +kernel
theorem d_L_law_356 : decode code 356 = .ok (.iadd, 1) := by decide +kernel
theorem d_L_law_357 : decode code 357 = .ok (.iaload, 1) := by decide +kernel
theorem d_L_law_358 : decode code 358 = .ok (.aload_n 0, 1) := by decide +kernel
theorem d_L_law_359 : decode code 359 = .ok (.iload_n 3, 1) := by decide +kernel
theorem d_L_law_360 : decode code 360 = .ok (.iconst 4, 1) := by decide +kernel
theorem d_L_law_361 : decode code 361 = .ok (.iadd, 1) := by decide +kernel
theorem d_L_law_362 : decode code 362 = .ok (.iaload, 1) := by decide +kernel
theorem d_L_law_363 : decode code 363 = .ok (.invokevirtual 35, 3) := by decide +kernel
theorem d_L_law_366 : decode code 366 = .ok (.if_icmp .eq 387, 3) := by decide +kernel
theorem d_L_law_369 : decode code 369 = .ok (.iconst 0, 1) := by decide +kernel
theorem d_L_law_370 : decode code 370 = .ok (.ireturn, 1) := by decide +kernel
theorem d_L_law_371 : decode code 371 = .ok (.aload_n 1, 1) := by decide +kernel
theorem d_L_law_372 : decode code 372 = .ok (.invokevirtual 36, 3) := by decide +kernel
theorem d_L_law_375 : decode code 375 = .ok (.aload_n 2, 1) := by decide +kernel
theorem d_L_law_376 : decode code 376 = .ok (.invokevirtual 40, 3) := by decide +kernel
theorem d_L_law_379 : decode code 379 = .ok (.if_icmp .eq 374, 3) := by decide +kernel
theorem d_L_law_382 : decode code 382 = .ok (.iconst 0, 1) := by decide +kernel
theorem d_L_law_383 : decode code 383 = .ok (.ireturn, 1) := by decide +kernel
theorem d_L_law_384 : decode code 384 = .ok (.aload_n 1, 1) := by decide +kernel
theorem d_L_law_385 : decode code 385 = .ok (.aload_n 0, 1) := by decide +kernel
theorem d_L_law_386 : decode code 386 = .ok (.iload_n 3, 1) := by decide +kernel
theorem d_L_law_387 : decode code 387 = .ok (.iconst 1, 1) := by decide +kernel
theorem d_L_law_388 : decode code 388 = .ok (.iadd, 1) := by decide +kernel
theorem d_L_law_389 : decode code 389 = .ok (.iaload, 1) := by decide +kernel
theorem d_L_law_390 : decode code 390 = .ok (.aload_n 0, 1) := by decide +kernel
theorem d_L_law_391 : decode code 391 = .ok (.iload_n 3, 1) := by decide +kernel
theorem d_L_law_392 : decode code 392 = .ok (.iconst 2, 1) := by decide +kernel
theorem d_L_law_393 : decode code 393 = .ok (.iadd, 1) := by decide +kernel
theorem d_L_law_394 : decode code 394 = .ok (.iaload, 1) := by decide +kernel
theorem d_L_law_395 : decode code 395 = .ok (.aload_n 0, 1) := by decide +kernel
theorem d_L_law_396 : decode code 396 = .ok (.iload_n 3, 1) := by decide +kernel
theorem d_L_law_397 : decode code 397 = .ok (.iconst 3, 1) := by decide +kernel
theorem d_L_law_398 : decode code 398 = .ok (.iadd, 1) := by decide +kernel
theorem d_L_law_399 : decode code 399 = .ok (.iaload, 1) := by decide +kernel
theorem d_L_law_400 : decode code 400 = .ok (.aload_n 0, 1) := by decide +kernel
theorem d_L_law_401 : decode code 401 = .ok (.iload_n 3, 1) := by decide +kernel
theorem d_L_law_402 : decode code 402 = .ok (.iconst 4, 1) := by decide +kernel
theorem d_L_law_403 : decode code 403 = .ok (.iadd, 1) := by decide +kernel
theorem d_L_law_404 : decode code 404 = .ok (.iaload, 1) := by decide +kernel
theorem d_L_law_405 : decode code 405 = .ok (.invokevirtual 41, 3) := by decide +kernel
theorem d_L_law_408 : decode code 408 = .ok (.aload_n 2, 1) := by decide +kernel
theorem d_L_law_409 : decode code 409 = .ok (.aload_n 0, 1) := by decide +kernel
theorem d_L_law_410 : decode code 410 = .ok (.iload_n 3, 1) := by decide +kernel
theorem d_L_law_411 : decode code 411 = .ok (.iconst 1, 1) := by decide +kernel
theorem d_L_law_412 : decode code 412 = .ok (.iadd, 1) := by decide +kernel
theorem d_L_law_413 : decode code 413 = .ok (.iaload, 1) := by decide +kernel
theorem d_L_law_414 : decode code 414 = .ok (.aload_n 0, 1) := by decide +kernel
theorem d_L_law_415 : decode code 415 = .ok (.iload_n 3, 1) := by decide +kernel
theorem d_L_law_416 : decode code 416 = .ok (.iconst 2, 1) := by decide +kernel
theorem d_L_law_417 : decode code 417 = .ok (.iadd, 1) := by decide +kernel
theorem d_L_law_418 : decode code 418 = .ok (.iaload, 1) := by decide +kernel
theorem d_L_law_419 : decode code 419 = .ok (.aload_n 0, 1) := by decide +kernel
theorem d_L_law_420 : decode code 420 = .ok (.iload_n 3, 1) := by decide +kernel
theorem d_L_law_421 : decode code 421 = .ok (.iconst 3, 1) := by decide +kernel
theorem d_L_law_422 : decode code 422 = .ok (.iadd, 1) := by decide +kernel
theorem d_L_law_423 : decode code 423 = .ok (.iaload, 1) := by decide +kernel
theorem d_L_law_424 : decode code 424 = .ok (.aload_n 0, 1) := by decide +kernel
theorem d_L_law_425 : decode code 425 = .ok (.iload_n 3, 1) := by decide +kernel
theorem d_L_law_426 : decode code 426 = .ok (.iconst 4, 1) := by decide +kernel
theorem d_L_law_427 : decode code 427 = .ok (.iadd, 1) := by decide +kernel
theorem d_L_law_428 : decode code 428 = .ok (.iaload, 1) := by decide +kernel
theorem d_L_law_429 : decode code 429 = .ok (.invokevirtual 44, 3) := by decide +kernel
theorem d_L_law_432 : decode code 432 = .ok (.if_icmp .eq 321, 3) := by decide +kernel
theorem d_L_law_435 : decode code 435 = .ok (.iconst 0, 1) := by decide +kernel
theorem d_L_law_436 : decode code 436 = .ok (.ireturn, 1) := by decide +kernel
theorem d_L_law_437 : decode code 437 = .ok (.aload_n 1, 1) := by decide +kernel
theorem d_L_law_438 : decode code 438 = .ok (.aload_n 0, 1) := by decide +kernel
theorem d_L_law_439 : decode code 439 = .ok (.iload_n 3, 1) := by decide +kernel
theorem d_L_law_440 : decode code 440 = .ok (.iconst 1, 1) := by decide +kernel
theorem d_L_law_441 : decode code 441 = .ok (.iadd, 1) := by decide +kernel
theorem d_L_law_442 : decode code 442 = .ok (.iaload, 1) := by decide +kernel
theorem d_L_law_443 : decode code 443 = .ok (.aload_n 0, 1) := by decide +kernel
theorem d_L_law_444 : decode code 444 = .ok (.iload_n 3, 1) := by decide +kernel
theorem d_L_law_445 : decode code 445 = .ok (.iconst 2, 1) := by decide +kernel
theorem d_L_law_446 : decode code 446 = .ok (.iadd, 1) := by decide +kernel
theorem d_L_law_447 : decode code 447 = .ok (.iaload, 1) := by decide +kernel
theorem d_L_law_448 : decode code 448 = .ok (.invokevirtual 45, 3) := by decide +kernel
theorem d_L_law_451 : decode code 451 = .ok (.aload_n 2, 1) := by decide +kernel
theorem d_L_law_452 : decode code 452 = .ok (.aload_n 0, 1) := by decide +kernel
theorem d_L_law_453 : decode code 453 = .ok (.iload_n 3, 1) := by decide +kernel
theorem d_L_law_454 : decode code 454 = .ok (.iconst 1, 1) := by decide +kernel
theorem d_L_law_455 : decode code 455 = .ok (.iadd, 1) := by decide +kernel
theorem d_L_law_456 : decode code 456 = .ok (.iaload, 1) := by decide +kernel
theorem d_L_law_457 : decode code 457 = .ok (.aload_n 0, 1) := by decide +kernel
theorem d_L_law_458 : decode code 458 = .ok (.iload_n 3, 1) := by decide +kernel
theorem d_L_law_459 : decode code 459 = .ok (.iconst 2, 1) := by decide +kernel
theorem d_L_law_460 : decode code 460 = .ok (.iadd, 1) := by decide +kernel
theorem d_L_law_461 : decode code 461 = .ok (.iaload, 1) := by decide +kernel
theorem d_L_law_462 : decode code 462 = .ok (.invokevirtual 48, 3) := by decide +kernel
theorem d_L_law_465 : decode code 465 = .ok (.if_icmp .eq 288, 3) := by decide +kernel
theorem d_L_law_468 : decode code 468 = .ok (.iconst 0, 1) := by decide +kernel
theorem d_L_law_469 : decode code 469 = .ok (.ireturn, 1) := by decide +kernel
theorem d_L_law_470 : decode code 470 = .ok (.aload_n 1, 1) := by decide +kernel
theorem d_L_law_471 : decode code 471 = .ok (.aload_n 0, 1) := by decide +kernel
theorem d_L_law_472 : decode code 472 = .ok (.iload_n 3, 1) := by decide +kernel
theorem d_L_law_473 : decode code 473 = .ok (.iconst 1, 1) := by decide +kernel
theorem d_L_law_474 : decode code 474 = .ok (.iadd, 1) := by decide +kernel
theorem d_L_law_475 : decode code 475 = .ok (.iaload, 1) := by decide +kernel
theorem d_L_law_476 : decode code 476 = .ok (.invokevirtual 49, 3) := by decide +kernel
theorem d_L_law_479 : decode code 479 = .ok (.aload_n 2, 1) := by decide +kernel
theorem d_L_law_480 : decode code 480 = .ok (.aload_n 0, 1) := by decide +kernel
theorem d_L_law_481 : decode code 481 = .ok (.iload_n 3, 1) := by decide +kernel
theorem d_L_law_482 : decode code 482 = .ok (.iconst 1, 1) := by decide +kernel
theorem d_L_law_483 : decode code 483 = .ok (.iadd, 1) := by decide +kernel
theorem d_L_law_484 : decode code 484 = .ok (.iaload, 1) := by decide +kernel
theorem d_L_law_485 : decode code 485 = .ok (.invokevirtual 53, 3) := by decide +kernel
theorem d_L_law_488 : decode code 488 = .ok (.if_icmp .eq 265, 3) := by decide +kernel
theorem d_L_law_491 : decode code 491 = .ok (.iconst 0, 1) := by decide +kernel
theorem d_L_law_492 : decode code 492 = .ok (.ireturn, 1) := by decide +kernel
theorem d_L_law_493 : decode code 493 = .ok (.aload_n 1, 1) := by decide +kernel
theorem d_L_law_494 : decode code 494 = .ok (.aload_n 0, 1) := by decide +kernel
theorem d_L_law_495 : decode code 495 = .ok (.iload_n 3, 1) := by decide +kernel
theorem d_L_law_496 : decode code 496 = .ok (.iconst 1, 1) := by decide +kernel
theorem d_L_law_497 : decode code 497 = .ok (.iadd, 1) := by decide +kernel
theorem d_L_law_498 : decode code 498 = .ok (.iaload, 1) := by decide +kernel
theorem d_L_law_499 : decode code 499 = .ok (.invokevirtual 54, 3) := by decide +kernel
theorem d_L_law_502 : decode code 502 = .ok (.aload_n 2, 1) := by decide +kernel
theorem d_L_law_503 : decode code 503 = .ok (.aload_n 0, 1) := by decide +kernel
theorem d_L_law_504 : decode code 504 = .ok (.iload_n 3, 1) := by decide +kernel
theorem d_L_law_505 : decode code 505 = .ok (.iconst 1, 1) := by decide +kernel
theorem d_L_law_506 : decode code 506 = .ok (.iadd, 1) := by decide +kernel
theorem d_L_law_507 : decode code 507 = .ok (.iaload, 1) := by decide +kernel
theorem d_L_law_508 : decode code 508 = .ok (.invokevirtual 57, 3) := by decide +kernel
theorem d_L_law_511 : decode code 511 = .ok (.if_icmp .eq 242, 3) := by decide +kernel
theorem d_L_law_514 : decode code 514 = .ok (.iconst 0, 1) := by decide +kernel
theorem d_L_law_515 : decode code 515 = .ok (.ireturn, 1) := by decide +kernel
theorem d_L_law_516 : decode code 516 = .ok (.aload_n 1, 1) := by decide +kernel
theorem d_L_law_517 : decode code 517 = .ok (.aload_n 0, 1) := by decide +kernel
theorem d_L_law_518 : decode code 518 = .ok (.iload_n 3, 1) := by decide +kernel
theorem d_L_law_519 : decode code 519 = .ok (.iconst 1, 1) := by decide +kernel
theorem d_L_law_520 : decode code 520 = .ok (.iadd, 1) := by decide +kernel
theorem d_L_law_521 : decode code 521 = .ok (.iaload, 1) := by decide +kernel
theorem d_L_law_522 : decode code 522 = .ok (.aload_n 0, 1) := by decide +kernel
theorem d_L_law_523 : decode code 523 = .ok (.iload_n 3, 1) := by decide +kernel
theorem d_L_law_524 : decode code 524 = .ok (.iconst 2, 1) := by decide +kernel
theorem d_L_law_525 : decode code 525 = .ok (.iadd, 1) := by decide +kernel
theorem d_L_law_526 : decode code 526 = .ok (.iaload, 1) := by decide +kernel
theorem d_L_law_527 : decode code 527 = .ok (.invokevirtual 58, 3) := by decide +kernel
theorem d_L_law_530 : decode code 530 = .ok (.dstore 4, 2) := by decide +kernel
theorem d_L_law_532 : decode code 532 = .ok (.aload_n 2, 1) := by decide +kernel
theorem d_L_law_533 : decode code 533 = .ok (.aload_n 0, 1) := by decide +kernel
theorem d_L_law_534 : decode code 534 = .ok (.iload_n 3, 1) := by decide +kernel
theorem d_L_law_535 : decode code 535 = .ok (.iconst 1, 1) := by decide +kernel
theorem d_L_law_536 : decode code 536 = .ok (.iadd, 1) := by decide +kernel
theorem d_L_law_537 : decode code 537 = .ok (.iaload, 1) := by decide +kernel
theorem d_L_law_538 : decode code 538 = .ok (.aload_n 0, 1) := by decide +kernel
theorem d_L_law_539 : decode code 539 = .ok (.iload_n 3, 1) := by decide +kernel
theorem d_L_law_540 : decode code 540 = .ok (.iconst 2, 1) := by decide +kernel
theorem d_L_law_541 : decode code 541 = .ok (.iadd, 1) := by decide +kernel
theorem d_L_law_542 : decode code 542 = .ok (.iaload, 1) := by decide +kernel
theorem d_L_law_543 : decode code 543 = .ok (.invokevirtual 62, 3) := by decide +kernel
theorem d_L_law_546 : decode code 546 = .ok (.dstore 6, 2) := by decide +kernel
theorem d_L_law_548 : decode code 548 = .ok (.dload 4, 2) := by decide +kernel
theorem d_L_law_550 : decode code 550 = .ok (.dload 6, 2) := by decide +kernel
theorem d_L_law_552 : decode code 552 = .ok (.dcmp .l, 1) := by decide +kernel
theorem d_L_law_553 : decode code 553 = .ok (.ifCond .eq 21, 3) := by decide +kernel
theorem d_L_law_556 : decode code 556 = .ok (.dload 4, 2) := by decide +kernel
theorem d_L_law_558 : decode code 558 = .ok (.dload 4, 2) := by decide +kernel
theorem d_L_law_560 : decode code 560 = .ok (.dcmp .l, 1) := by decide +kernel
theorem d_L_law_561 : decode code 561 = .ok (.ifCond .eq 11, 3) := by decide +kernel
theorem d_L_law_564 : decode code 564 = .ok (.dload 6, 2) := by decide +kernel
theorem d_L_law_566 : decode code 566 = .ok (.dload 6, 2) := by decide +kernel
theorem d_L_law_568 : decode code 568 = .ok (.dcmp .l, 1) := by decide +kernel
theorem d_L_law_569 : decode code 569 = .ok (.ifCond .ne 5, 3) := by decide +kernel
theorem d_L_law_572 : decode code 572 = .ok (.iconst 0, 1) := by decide +kernel
theorem d_L_law_573 : decode code 573 = .ok (.ireturn, 1) := by decide +kernel
theorem d_L_law_574 : decode code 574 = .ok (.goto 179, 3) := by decide +kernel
theorem d_L_law_577 : decode code 577 = .ok (.aload_n 1, 1) := by decide +kernel
theorem d_L_law_578 : decode code 578 = .ok (.invokevirtual 63, 3) := by decide +kernel
theorem d_L_law_581 : decode code 581 = .ok (.dstore 4, 2) := by decide +kernel
theorem d_L_law_583 : decode code 583 = .ok (.aload_n 2, 1) := by decide +kernel
theorem d_L_law_584 : decode code 584 = .ok (.invokevirtual 67, 3) := by decide +kernel
theorem d_L_law_587 : decode code 587 = .ok (.dstore 6, 2) := by decide +kernel
theorem d_L_law_589 : decode code 589 = .ok (.dload 4, 2) := by decide +kernel
theorem d_L_law_591 : decode code 591 = .ok (.dload 6, 2) := by decide +kernel
theorem d_L_law_593 : decode code 593 = .ok (.dcmp .l, 1) := by decide +kernel
theorem d_L_law_594 : decode code 594 = .ok (.ifCond .eq 21, 3) := by decide +kernel
theorem d_L_law_597 : decode code 597 = .ok (.dload 4, 2) := by decide +kernel
theorem d_L_law_599 : decode code 599 = .ok (.dload 4, 2) := by decide +kernel
theorem d_L_law_601 : decode code 601 = .ok (.dcmp .l, 1) := by decide +kernel
theorem d_L_law_602 : decode code 602 = .ok (.ifCond .eq 11, 3) := by decide +kernel
theorem d_L_law_605 : decode code 605 = .ok (.dload 6, 2) := by decide +kernel
theorem d_L_law_607 : decode code 607 = .ok (.dload 6, 2) := by decide +kernel
theorem d_L_law_609 : decode code 609 = .ok (.dcmp .l, 1) := by decide +kernel
theorem d_L_law_610 : decode code 610 = .ok (.ifCond .ne 5, 3) := by decide +kernel
theorem d_L_law_613 : decode code 613 = .ok (.iconst 0, 1) := by decide +kernel
theorem d_L_law_614 : decode code 614 = .ok (.ireturn, 1) := by decide +kernel
theorem d_L_law_615 : decode code 615 = .ok (.goto 138, 3) := by decide +kernel
theorem d_L_law_618 : decode code 618 = .ok (.aload_n 1, 1) := by decide +kernel
theorem d_L_law_619 : decode code 619 = .ok (.invokevirtual 68, 3) := by decide +kernel
theorem d_L_law_622 : decode code 622 = .ok (.aload_n 2, 1) := by decide +kernel
theorem d_L_law_623 : decode code 623 = .ok (.invokevirtual 71, 3) := by decide +kernel
theorem d_L_law_626 : decode code 626 = .ok (.if_icmp .eq 127, 3) := by decide +kernel
theorem d_L_law_629 : decode code 629 = .ok (.iconst 0, 1) := by decide +kernel
theorem d_L_law_630 : decode code 630 = .ok (.ireturn, 1) := by decide +kernel
theorem d_L_law_631 : decode code 631 = .ok (.aload_n 1, 1) := by decide +kernel
theorem d_L_law_632 : decode code 632 = .ok (.aload_n 0, 1) := by decide +kernel
theorem d_L_law_633 : decode code 633 = .ok (.iload_n 3, 1) := by decide +kernel
theorem d_L_law_634 : decode code 634 = .ok (.iconst 1, 1) := by decide +kernel
theorem d_L_law_635 : decode code 635 = .ok (.iadd, 1) := by decide +kernel
theorem d_L_law_636 : decode code 636 = .ok (.iaload, 1) := by decide +kernel
theorem d_L_law_637 : decode code 637 = .ok (.invokevirtual 72, 3) := by decide +kernel
theorem d_L_law_640 : decode code 640 = .ok (.aload_n 2, 1) := by decide +kernel
theorem d_L_law_641 : decode code 641 = .ok (.aload_n 0, 1) := by decide +kernel
theorem d_L_law_642 : decode code 642 = .ok (.iload_n 3, 1) := by decide +kernel
theorem d_L_law_643 : decode code 643 = .ok (.iconst 1, 1) := by decide +kernel
theorem d_L_law_644 : decode code 644 = .ok (.iadd, 1) := by decide +kernel
theorem d_L_law_645 : decode code 645 = .ok (.iaload, 1) := by decide +kernel
theorem d_L_law_646 : decode code 646 = .ok (.invokevirtual 75, 3) := by decide +kernel
theorem d_L_law_649 : decode code 649 = .ok (.if_icmp .eq 104, 3) := by decide +kernel
theorem d_L_law_652 : decode code 652 = .ok (.iconst 0, 1) := by decide +kernel
theorem d_L_law_653 : decode code 653 = .ok (.ireturn, 1) := by decide +kernel
theorem d_L_law_654 : decode code 654 = .ok (.aload_n 1, 1) := by decide +kernel
theorem d_L_law_655 : decode code 655 = .ok (.aload_n 0, 1) := by decide +kernel
theorem d_L_law_656 : decode code 656 = .ok (.iload_n 3, 1) := by decide +kernel
theorem d_L_law_657 : decode code 657 = .ok (.iconst 1, 1) := by decide +kernel
theorem d_L_law_658 : decode code 658 = .ok (.iadd, 1) := by decide +kernel
theorem d_L_law_659 : decode code 659 = .ok (.iaload, 1) := by decide +kernel
theorem d_L_law_660 : decode code 660 = .ok (.invokevirtual 76, 3) := by decide +kernel
theorem d_L_law_663 : decode code 663 = .ok (.aload_n 2, 1) := by decide +kernel
theorem d_L_law_664 : decode code 664 = .ok (.aload_n 0, 1) := by decide +kernel
theorem d_L_law_665 : decode code 665 = .ok (.iload_n 3, 1) := by decide +kernel
theorem d_L_law_666 : decode code 666 = .ok (.iconst 1, 1) := by decide +kernel
theorem d_L_law_667 : decode code 667 = .ok (.iadd, 1) := by decide +kernel
theorem d_L_law_668 : decode code 668 = .ok (.iaload, 1) := by decide +kernel
theorem d_L_law_669 : decode code 669 = .ok (.invokevirtual 79, 3) := by decide +kernel
theorem d_L_law_672 : decode code 672 = .ok (.if_icmp .eq 81, 3) := by decide +kernel
theorem d_L_law_675 : decode code 675 = .ok (.iconst 0, 1) := by decide +kernel
theorem d_L_law_676 : decode code 676 = .ok (.ireturn, 1) := by decide +kernel
theorem d_L_law_677 : decode code 677 = .ok (.aload_n 1, 1) := by decide +kernel
theorem d_L_law_678 : decode code 678 = .ok (.aload_n 0, 1) := by decide +kernel
theorem d_L_law_679 : decode code 679 = .ok (.iload_n 3, 1) := by decide +kernel
theorem d_L_law_680 : decode code 680 = .ok (.iconst 1, 1) := by decide +kernel
theorem d_L_law_681 : decode code 681 = .ok (.iadd, 1) := by decide +kernel
theorem d_L_law_682 : decode code 682 = .ok (.iaload, 1) := by decide +kernel
theorem d_L_law_683 : decode code 683 = .ok (.aload_n 0, 1) := by decide +kernel
theorem d_L_law_684 : decode code 684 = .ok (.iload_n 3, 1) := by decide +kernel
theorem d_L_law_685 : decode code 685 = .ok (.iconst 2, 1) := by decide +kernel
theorem d_L_law_686 : decode code 686 = .ok (.iadd, 1) := by decide +kernel
theorem d_L_law_687 : decode code 687 = .ok (.iaload, 1) := by decide +kernel
theorem d_L_law_688 : decode code 688 = .ok (.aload_n 0, 1) := by decide +kernel
theorem d_L_law_689 : decode code 689 = .ok (.iload_n 3, 1) := by decide +kernel
theorem d_L_law_690 : decode code 690 = .ok (.iconst 3, 1) := by decide +kernel
theorem d_L_law_691 : decode code 691 = .ok (.iadd, 1) := by decide +kernel
theorem d_L_law_692 : decode code 692 = .ok (.iaload, 1) := by decide +kernel
theorem d_L_law_693 : decode code 693 = .ok (.invokevirtual 80, 3) := by decide +kernel
theorem d_L_law_696 : decode code 696 = .ok (.aload_n 2, 1) := by decide +kernel
theorem d_L_law_697 : decode code 697 = .ok (.aload_n 0, 1) := by decide +kernel
theorem d_L_law_698 : decode code 698 = .ok (.iload_n 3, 1) := by decide +kernel
theorem d_L_law_699 : decode code 699 = .ok (.iconst 1, 1) := by decide +kernel
theorem d_L_law_700 : decode code 700 = .ok (.iadd, 1) := by decide +kernel
theorem d_L_law_701 : decode code 701 = .ok (.iaload, 1) := by decide +kernel
theorem d_L_law_702 : decode code 702 = .ok (.aload_n 0, 1) := by decide +kernel
theorem d_L_law_703 : decode code 703 = .ok (.iload_n 3, 1) := by decide +kernel
theorem d_L_law_704 : decode code 704 = .ok (.iconst 2, 1) := by decide +kernel
theorem d_L_law_705 : decode code 705 = .ok (.iadd, 1) := by decide +kernel
theorem d_L_law_706 : decode code 706 = .ok (.iaload, 1) := by decide +kernel
theorem d_L_law_707 : decode code 707 = .ok (.aload_n 0, 1) := by decide +kernel
theorem d_L_law_708 : decode code 708 = .ok (.iload_n 3, 1) := by decide +kernel
theorem d_L_law_709 : decode code 709 = .ok (.iconst 3, 1) := by decide +kernel
theorem d_L_law_710 : decode code 710 = .ok (.iadd, 1) := by decide +kernel
theorem d_L_law_711 : decode code 711 = .ok (.iaload, 1) := by decide +kernel
theorem d_L_law_712 : decode code 712 = .ok (.invokevirtual 84, 3) := by decide +kernel
theorem d_L_law_715 : decode code 715 = .ok (.if_icmp .eq 38, 3) := by decide +kernel
theorem d_L_law_718 : decode code 718 = .ok (.iconst 0, 1) := by decide +kernel
theorem d_L_law_719 : decode code 719 = .ok (.ireturn, 1) := by decide +kernel
theorem d_L_law_720 : decode code 720 = .ok (.aload_n 1, 1) := by decide +kernel
theorem d_L_law_721 : decode code 721 = .ok (.aload_n 0, 1) := by decide +kernel
theorem d_L_law_722 : decode code 722 = .ok (.iload_n 3, 1) := by decide +kernel
theorem d_L_law_723 : decode code 723 = .ok (.iconst 1, 1) := by decide +kernel
theorem d_L_law_724 : decode code 724 = .ok (.iadd, 1) := by decide +kernel
theorem d_L_law_725 : decode code 725 = .ok (.iaload, 1) := by decide +kernel
theorem d_L_law_726 : decode code 726 = .ok (.aload_n 0, 1) := by decide +kernel
theorem d_L_law_727 : decode code 727 = .ok (.iload_n 3, 1) := by decide +kernel
theorem d_L_law_728 : decode code 728 = .ok (.iconst 2, 1) := by decide +kernel
theorem d_L_law_729 : decode code 729 = .ok (.iadd, 1) := by decide +kernel
theorem d_L_law_730 : decode code 730 = .ok (.iaload, 1) := by decide +kernel
theorem d_L_law_731 : decode code 731 = .ok (.invokevirtual 85, 3) := by decide +kernel
theorem d_L_law_734 : decode code 734 = .ok (.aload_n 2, 1) := by decide +kernel
theorem d_L_law_735 : decode code 735 = .ok (.aload_n 0, 1) := by decide +kernel
theorem d_L_law_736 : decode code 736 = .ok (.iload_n 3, 1) := by decide +kernel
theorem d_L_law_737 : decode code 737 = .ok (.iconst 1, 1) := by decide +kernel
theorem d_L_law_738 : decode code 738 = .ok (.iadd, 1) := by decide +kernel
theorem d_L_law_739 : decode code 739 = .ok (.iaload, 1) := by decide +kernel
theorem d_L_law_740 : decode code 740 = .ok (.aload_n 0, 1) := by decide +kernel
theorem d_L_law_741 : decode code 741 = .ok (.iload_n 3, 1) := by decide +kernel
theorem d_L_law_742 : decode code 742 = .ok (.iconst 2, 1) := by decide +kernel
theorem d_L_law_743 : decode code 743 = .ok (.iadd, 1) := by decide +kernel
theorem d_L_law_744 : decode code 744 = .ok (.iaload, 1) := by decide +kernel
theorem d_L_law_745 : decode code 745 = .ok (.invokevirtual 88, 3) := by decide +kernel
theorem d_L_law_748 : decode code 748 = .ok (.if_icmp .eq 5, 3) := by decide +kernel
theorem d_L_law_751 : decode code 751 = .ok (.iconst 0, 1) := by decide +kernel
theorem d_L_law_752 : decode code 752 = .ok (.ireturn, 1) := by decide +kernel
theorem d_L_law_753 : decode code 753 = .ok (.iinc 3 6, 3) := by decide +kernel
theorem d_L_law_756 : decode code 756 = .ok (.goto (-738), 3) := by decide +kernel
theorem d_L_law_759 : decode code 759 = .ok (.iconst 1, 1) := by decide +kernel
theorem d_L_law_760 : decode code 760 = .ok (.ireturn, 1) := by decide +kernel
end
section
theorem zk_mem {w : Cond} (i : Nat) (h : lw_tbl[i]? = some w) (hg : zk_good w = true) : w ∈ zk_tb := zk_in (List.mem_of_getElem? h) hg
theorem in_B : ∀ w ∈ u_ws R_B T_B 9, w ∈ zk_tb := by decide +kernel
theorem Y_B : zk_Y T_B 9 t_B := ⟨by decide +kernel, by decide +kernel⟩
theorem in_O : ∀ w ∈ u_ws R_O T_O 8, w ∈ zk_tb := by decide +kernel
theorem Y_O : zk_Y T_O 8 t_O := ⟨by decide +kernel, by decide +kernel⟩
theorem in_U : ∀ w ∈ u_ws R_U T_U 4, w ∈ zk_tb := by decide +kernel
theorem Y_U : zk_Y T_U 4 t_U := ⟨by decide +kernel, by decide +kernel⟩
theorem in_A : ∀ w ∈ u_ws R_A T_A 6, w ∈ zk_tb := by decide +kernel
theorem Y_A : zk_Y T_A 6 t_A := ⟨by decide +kernel, by decide +kernel⟩
theorem in_M : ∀ w ∈ u_ws R_M T_M 13, w ∈ zk_tb := by decide +kernel
theorem Y_M : zk_Y T_M 13 t_M := ⟨by decide +kernel, by decide +kernel⟩
theorem o_A_3 : zk_O R_A 3 := ⟨zk_mem 49 (by decide +kernel) rfl, zk_mem 50 (by decide +kernel) rfl, zk_mem 51 (by decide +kernel) rfl⟩
theorem n_A_9 : zk_N R_A 9 1 R_O T_O 8 := ⟨rfl, zk_mem 52 (by decide +kernel) rfl, zk_mem 53 (by decide +kernel) rfl, zk_mem 39 (by decide +kernel) rfl, in_O⟩
theorem k_A_11 : zk_LI R_A 11 y_O_init b_O_init 2 0 := ⟨zk_mem 54 (by decide +kernel) rfl, ⟨zk_mem 55 (by decide +kernel) rfl, rfl⟩, zk_mem 39 (by decide +kernel) rfl, zk_mem 56 (by decide +kernel) rfl, by decide +kernel⟩
theorem f_A_12 : zk_F R_A 12 3 0 R_A T_A 6 := ⟨rfl, by decide, zk_mem 155 (by decide +kernel) rfl, in_A, rfl⟩
theorem f_A_16 : zk_F R_A 16 3 1 R_A T_A 6 := ⟨rfl, by decide, zk_mem 156 (by decide +kernel) rfl, in_A, rfl⟩
theorem f_A_21 : zk_F R_A 21 3 2 R_A T_A 6 := ⟨rfl, by decide, zk_mem 157 (by decide +kernel) rfl, in_A, rfl⟩
theorem n_A_19 : zk_N R_A 19 2 R_U T_U 4 := ⟨rfl, zk_mem 92 (by decide +kernel) rfl, zk_mem 94 (by decide +kernel) rfl, zk_mem 40 (by decide +kernel) rfl, in_U⟩
theorem k_A_25 : zk_LIN R_A 25 y_U_init b_U_init 1 0 "ApiCompare" := ⟨zk_mem 95 (by decide +kernel) rfl, ⟨zk_mem 96 (by decide +kernel) rfl, rfl⟩, zk_mem 40 (by decide +kernel) rfl, zk_mem 97 (by decide +kernel) rfl, by decide +kernel⟩
theorem f_A_26 : zk_F R_A 26 3 3 R_A T_A 6 := ⟨rfl, by decide, zk_mem 158 (by decide +kernel) rfl, in_A, rfl⟩
theorem n_A_30 : zk_N R_A 30 0 R_B T_B 9 := ⟨rfl, zk_mem 117 (by decide +kernel) rfl, zk_mem 118 (by decide +kernel) rfl, zk_mem 41 (by decide +kernel) rfl, in_B⟩
theorem k_A_32 : zk_LIN R_A 32 y_B_init b_B_init 1 0 "ApiCompare" := ⟨zk_mem 119 (by decide +kernel) rfl, ⟨zk_mem 120 (by decide +kernel) rfl, rfl⟩, zk_mem 41 (by decide +kernel) rfl, zk_mem 121 (by decide +kernel) rfl, by decide +kernel⟩
theorem f_A_33 : zk_F R_A 33 3 4 R_A T_A 6 := ⟨rfl, by decide, zk_mem 159 (by decide +kernel) rfl, in_A, rfl⟩
theorem f_A_37 : zk_F R_A 37 3 5 R_A T_A 6 := ⟨rfl, by decide, zk_mem 160 (by decide +kernel) rfl, in_A, rfl⟩
theorem k_A_40 : zk_LS R_A 40 y_A_isBelow b_A_isBelow 2 (some .boolean) 2 := ⟨zk_mem 178 (by decide +kernel) rfl, zk_mem 179 (by decide +kernel) rfl, zk_mem 38 (by decide +kernel) rfl, zk_mem 180 (by decide +kernel) rfl, by decide +kernel⟩
theorem k_A_44 : zk_LV R_A 44 y_A_offerOf b_A_offerOf 2 (some (.object "ApiCompare$Offer")) 1 := ⟨zk_mem 181 (by decide +kernel) rfl, ⟨zk_mem 183 (by decide +kernel) rfl, zk_mem 0 (by decide +kernel) rfl⟩, zk_mem 38 (by decide +kernel) rfl, zk_mem 184 (by decide +kernel) rfl, by decide +kernel⟩
theorem k_A_48 : zk_LV R_A 48 y_O_canName b_O_canName 5 (some .boolean) 3 := ⟨zk_mem 185 (by decide +kernel) rfl, ⟨zk_mem 186 (by decide +kernel) rfl, zk_mem 187 (by decide +kernel) rfl⟩, zk_mem 39 (by decide +kernel) rfl, zk_mem 188 (by decide +kernel) rfl, by decide +kernel⟩
theorem k_A_52 : zk_LV R_A 52 y_O_isThere b_O_isThere 2 (some .boolean) 1 := ⟨zk_mem 204 (by decide +kernel) rfl, ⟨zk_mem 190 (by decide +kernel) rfl, zk_mem 191 (by decide +kernel) rfl⟩, zk_mem 39 (by decide +kernel) rfl, zk_mem 192 (by decide +kernel) rfl, by decide +kernel⟩
theorem k_A_56 : zk_LV R_A 56 y_O_isInterface b_O_isInterface 2 (some .boolean) 1 := ⟨zk_mem 205 (by decide +kernel) rfl, ⟨zk_mem 194 (by decide +kernel) rfl, zk_mem 195 (by decide +kernel) rfl⟩, zk_mem 39 (by decide +kernel) rfl, zk_mem 196 (by decide +kernel) rfl, by decide +kernel⟩
theorem k_A_59 : zk_LV R_A 59 y_O_isNamed b_O_isNamed 3 (some .boolean) 1 := ⟨zk_mem 206 (by decide +kernel) rfl, ⟨zk_mem 207 (by decide +kernel) rfl, zk_mem 208 (by decide +kernel) rfl⟩, zk_mem 39 (by decide +kernel) rfl, zk_mem 209 (by decide +kernel) rfl, by decide +kernel⟩
theorem k_A_62 : zk_LV R_A 62 y_O_putType b_O_putType 5 none 4 := ⟨zk_mem 210 (by decide +kernel) rfl, ⟨zk_mem 211 (by decide +kernel) rfl, zk_mem 212 (by decide +kernel) rfl⟩, zk_mem 39 (by decide +kernel) rfl, zk_mem 213 (by decide +kernel) rfl, by decide +kernel⟩
theorem k_A_66 : zk_LV R_A 66 y_A_isTypeThere b_A_isTypeThere 3 (some .boolean) 2 := ⟨zk_mem 218 (by decide +kernel) rfl, ⟨zk_mem 220 (by decide +kernel) rfl, zk_mem 2 (by decide +kernel) rfl⟩, zk_mem 38 (by decide +kernel) rfl, zk_mem 221 (by decide +kernel) rfl, by decide +kernel⟩
theorem k_A_69 : zk_LV R_A 69 y_O_removeType b_O_removeType 3 none 1 := ⟨zk_mem 222 (by decide +kernel) rfl, ⟨zk_mem 223 (by decide +kernel) rfl, zk_mem 224 (by decide +kernel) rfl⟩, zk_mem 39 (by decide +kernel) rfl, zk_mem 225 (by decide +kernel) rfl, by decide +kernel⟩
theorem k_A_73 : zk_LS R_A 73 y_A_areFieldFlags b_A_areFieldFlags 2 (some .boolean) 1 := ⟨zk_mem 231 (by decide +kernel) rfl, zk_mem 232 (by decide +kernel) rfl, zk_mem 38 (by decide +kernel) rfl, zk_mem 233 (by decide +kernel) rfl, by decide +kernel⟩
theorem k_A_76 : zk_LV R_A 76 y_O_putField b_O_putField 5 none 4 := ⟨zk_mem 234 (by decide +kernel) rfl, ⟨zk_mem 235 (by decide +kernel) rfl, zk_mem 236 (by decide +kernel) rfl⟩, zk_mem 39 (by decide +kernel) rfl, zk_mem 237 (by decide +kernel) rfl, by decide +kernel⟩
theorem k_A_79 : zk_LS R_A 79 y_A_areMethodFlags b_A_areMethodFlags 1 (some .boolean) 1 := ⟨zk_mem 242 (by decide +kernel) rfl, zk_mem 243 (by decide +kernel) rfl, zk_mem 38 (by decide +kernel) rfl, zk_mem 244 (by decide +kernel) rfl, by decide +kernel⟩
theorem k_A_82 : zk_LS R_A 82 y_A_methodPlace b_A_methodPlace 3 (some .int) 3 := ⟨zk_mem 245 (by decide +kernel) rfl, zk_mem 246 (by decide +kernel) rfl, zk_mem 38 (by decide +kernel) rfl, zk_mem 247 (by decide +kernel) rfl, by decide +kernel⟩
theorem k_A_86 : zk_LV R_A 86 y_O_putMethod b_O_putMethod 4 none 3 := ⟨zk_mem 248 (by decide +kernel) rfl, ⟨zk_mem 249 (by decide +kernel) rfl, zk_mem 250 (by decide +kernel) rfl⟩, zk_mem 39 (by decide +kernel) rfl, zk_mem 251 (by decide +kernel) rfl, by decide +kernel⟩
theorem k_A_90 : zk_LV R_A 90 y_O_removeField b_O_removeField 3 (some .boolean) 1 := ⟨zk_mem 256 (by decide +kernel) rfl, ⟨zk_mem 257 (by decide +kernel) rfl, zk_mem 258 (by decide +kernel) rfl⟩, zk_mem 39 (by decide +kernel) rfl, zk_mem 259 (by decide +kernel) rfl, by decide +kernel⟩
theorem k_A_93 : zk_LV R_A 93 y_O_removeMethod b_O_removeMethod 3 (some .boolean) 1 := ⟨zk_mem 260 (by decide +kernel) rfl, ⟨zk_mem 261 (by decide +kernel) rfl, zk_mem 262 (by decide +kernel) rfl⟩, zk_mem 39 (by decide +kernel) rfl, zk_mem 263 (by decide +kernel) rfl, by decide +kernel⟩
theorem k_A_96 : zk_LV R_A 96 y_O_becomeAs b_O_becomeAs 2 none 1 := ⟨zk_mem 268 (by decide +kernel) rfl, ⟨zk_mem 269 (by decide +kernel) rfl, zk_mem 270 (by decide +kernel) rfl⟩, zk_mem 39 (by decide +kernel) rfl, zk_mem 271 (by decide +kernel) rfl, by decide +kernel⟩
theorem k_A_100 : zk_LV R_A 100 y_U_tell b_U_tell 5 none 4 := ⟨zk_mem 279 (by decide +kernel) rfl, ⟨zk_mem 280 (by decide +kernel) rfl, zk_mem 281 (by decide +kernel) rfl⟩, zk_mem 40 (by decide +kernel) rfl, zk_mem 282 (by decide +kernel) rfl, by decide +kernel⟩
theorem k_A_103 : zk_LV R_A 103 y_B_bind b_B_bind 3 none 2 := ⟨zk_mem 287 (by decide +kernel) rfl, ⟨zk_mem 288 (by decide +kernel) rfl, zk_mem 289 (by decide +kernel) rfl⟩, zk_mem 41 (by decide +kernel) rfl, zk_mem 290 (by decide +kernel) rfl, by decide +kernel⟩
theorem f_A_107 : zk_FN R_A 107 0 0 R_B T_B 9 "ApiCompare" := ⟨rfl, by decide, zk_mem 124 (by decide +kernel) rfl, in_B, rfl⟩
theorem k_A_110 : zk_LV R_A 110 y_A_fateOf b_A_fateOf 2 (some .int) 1 := ⟨zk_mem 346 (by decide +kernel) rfl, ⟨zk_mem 348 (by decide +kernel) rfl, zk_mem 9 (by decide +kernel) rfl⟩, zk_mem 38 (by decide +kernel) rfl, zk_mem 349 (by decide +kernel) rfl, by decide +kernel⟩
theorem f_A_114 : zk_FN R_A 114 2 0 R_U T_U 4 "ApiCompare" := ⟨rfl, by decide, zk_mem 101 (by decide +kernel) rfl, in_U, rfl⟩
theorem k_A_117 : zk_LV R_A 117 y_B_isSameAs b_B_isSameAs 3 (some .boolean) 2 := ⟨zk_mem 378 (by decide +kernel) rfl, ⟨zk_mem 379 (by decide +kernel) rfl, zk_mem 380 (by decide +kernel) rfl⟩, zk_mem 41 (by decide +kernel) rfl, zk_mem 381 (by decide +kernel) rfl, by decide +kernel⟩
theorem f_A_121 : zk_FN R_A 121 0 2 R_B T_B 9 "ApiCompare" := ⟨rfl, by decide, zk_mem 127 (by decide +kernel) rfl, in_B, rfl⟩
theorem f_A_125 : zk_FN R_A 125 0 3 R_B T_B 9 "ApiCompare" := ⟨rfl, by decide, zk_mem 129 (by decide +kernel) rfl, in_B, rfl⟩
theorem f_A_128 : zk_FN R_A 128 0 4 R_B T_B 9 "ApiCompare" := ⟨rfl, by decide, zk_mem 131 (by decide +kernel) rfl, in_B, rfl⟩
theorem k_A_133 : zk_LS R_A 133 y_A_isError b_A_isError 1 (some .boolean) 1 := ⟨zk_mem 395 (by decide +kernel) rfl, zk_mem 396 (by decide +kernel) rfl, zk_mem 38 (by decide +kernel) rfl, zk_mem 397 (by decide +kernel) rfl, by decide +kernel⟩
theorem k_A_136 : zk_LS R_A 136 y_A_breaks b_A_breaks 1 (some .boolean) 1 := ⟨zk_mem 402 (by decide +kernel) rfl, zk_mem 403 (by decide +kernel) rfl, zk_mem 38 (by decide +kernel) rfl, zk_mem 404 (by decide +kernel) rfl, by decide +kernel⟩
theorem k_A_139 : zk_LV R_A 139 y_O_differencesFrom b_O_differencesFrom 5 (some .int) 2 := ⟨zk_mem 413 (by decide +kernel) rfl, ⟨zk_mem 414 (by decide +kernel) rfl, zk_mem 415 (by decide +kernel) rfl⟩, zk_mem 39 (by decide +kernel) rfl, zk_mem 416 (by decide +kernel) rfl, by decide +kernel⟩
theorem k_A_143 : zk_LV R_A 143 y_O_supertypesOf b_O_supertypesOf 4 (some .int) 1 := ⟨zk_mem 429 (by decide +kernel) rfl, ⟨zk_mem 323 (by decide +kernel) rfl, zk_mem 324 (by decide +kernel) rfl⟩, zk_mem 39 (by decide +kernel) rfl, zk_mem 325 (by decide +kernel) rfl, by decide +kernel⟩
theorem k_A_146 : zk_LS R_A 146 y_A_holds b_A_holds 2 (some .boolean) 2 := ⟨zk_mem 430 (by decide +kernel) rfl, zk_mem 202 (by decide +kernel) rfl, zk_mem 38 (by decide +kernel) rfl, zk_mem 203 (by decide +kernel) rfl, by decide +kernel⟩
theorem f_A_149 : zk_FN R_A 149 1 0 R_O T_O 8 "ApiCompare" := ⟨rfl, by decide, zk_mem 59 (by decide +kernel) rfl, in_O, rfl⟩
theorem k_A_153 : zk_LS R_A 153 y_A_howManyThere b_A_howManyThere 3 (some .int) 1 := ⟨zk_mem 435 (by decide +kernel) rfl, zk_mem 436 (by decide +kernel) rfl, zk_mem 38 (by decide +kernel) rfl, zk_mem 437 (by decide +kernel) rfl, by decide +kernel⟩
theorem f_A_157 : zk_FN R_A 157 1 3 R_O T_O 8 "ApiCompare" := ⟨rfl, by decide, zk_mem 64 (by decide +kernel) rfl, in_O, rfl⟩
theorem f_A_160 : zk_FN R_A 160 1 6 R_O T_O 8 "ApiCompare" := ⟨rfl, by decide, zk_mem 71 (by decide +kernel) rfl, in_O, rfl⟩
theorem k_A_163 : zk_LV R_A 163 y_B_fateWith b_B_fateWith 3 (some .int) 2 := ⟨zk_mem 350 (by decide +kernel) rfl, ⟨zk_mem 351 (by decide +kernel) rfl, zk_mem 352 (by decide +kernel) rfl⟩, zk_mem 41 (by decide +kernel) rfl, zk_mem 353 (by decide +kernel) rfl, by decide +kernel⟩
theorem o_M_1 : zk_O R_M 1 := ⟨zk_mem 443 (by decide +kernel) rfl, zk_mem 50 (by decide +kernel) rfl, zk_mem 51 (by decide +kernel) rfl⟩
theorem f_M_7 : zk_F R_M 7 4 0 R_M T_M 13 := ⟨rfl, by decide, zk_mem 444 (by decide +kernel) rfl, in_M, rfl⟩
theorem f_M_13 : zk_F R_M 13 4 1 R_M T_M 13 := ⟨rfl, by decide, zk_mem 445 (by decide +kernel) rfl, in_M, rfl⟩
theorem f_M_17 : zk_F R_M 17 4 2 R_M T_M 13 := ⟨rfl, by decide, zk_mem 446 (by decide +kernel) rfl, in_M, rfl⟩
theorem f_M_20 : zk_F R_M 20 4 3 R_M T_M 13 := ⟨rfl, by decide, zk_mem 447 (by decide +kernel) rfl, in_M, rfl⟩
theorem f_M_23 : zk_F R_M 23 4 4 R_M T_M 13 := ⟨rfl, by decide, zk_mem 448 (by decide +kernel) rfl, in_M, rfl⟩
theorem f_M_26 : zk_F R_M 26 4 5 R_M T_M 13 := ⟨rfl, by decide, zk_mem 449 (by decide +kernel) rfl, in_M, rfl⟩
theorem f_M_29 : zk_F R_M 29 4 6 R_M T_M 13 := ⟨rfl, by decide, zk_mem 450 (by decide +kernel) rfl, in_M, rfl⟩
theorem f_M_32 : zk_F R_M 32 4 7 R_M T_M 13 := ⟨rfl, by decide, zk_mem 451 (by decide +kernel) rfl, in_M, rfl⟩
theorem f_M_35 : zk_F R_M 35 4 8 R_M T_M 13 := ⟨rfl, by decide, zk_mem 452 (by decide +kernel) rfl, in_M, rfl⟩
theorem f_M_38 : zk_F R_M 38 4 10 R_M T_M 13 := ⟨rfl, by decide, zk_mem 454 (by decide +kernel) rfl, in_M, rfl⟩
theorem f_M_41 : zk_F R_M 41 4 11 R_M T_M 13 := ⟨rfl, by decide, zk_mem 455 (by decide +kernel) rfl, in_M, rfl⟩
theorem f_M_44 : zk_F R_M 44 4 12 R_M T_M 13 := ⟨rfl, by decide, zk_mem 456 (by decide +kernel) rfl, in_M, rfl⟩
theorem k_M_47 : zk_LS R_M 47 y_M_in b_M_in 3 (some .boolean) 3 := ⟨zk_mem 489 (by decide +kernel) rfl, zk_mem 490 (by decide +kernel) rfl, zk_mem 42 (by decide +kernel) rfl, zk_mem 491 (by decide +kernel) rfl, by decide +kernel⟩
theorem k_M_51 : zk_LV R_M 51 y_M_parentsRight b_M_parentsRight 8 (some .boolean) 4 := ⟨zk_mem 492 (by decide +kernel) rfl, ⟨zk_mem 494 (by decide +kernel) rfl, zk_mem 18 (by decide +kernel) rfl⟩, zk_mem 42 (by decide +kernel) rfl, zk_mem 495 (by decide +kernel) rfl, by decide +kernel⟩
theorem k_M_55 : zk_LV R_M 55 y_M_named b_M_named 5 (some .boolean) 2 := ⟨zk_mem 496 (by decide +kernel) rfl, ⟨zk_mem 498 (by decide +kernel) rfl, zk_mem 19 (by decide +kernel) rfl⟩, zk_mem 42 (by decide +kernel) rfl, zk_mem 499 (by decide +kernel) rfl, by decide +kernel⟩
theorem f_M_59 : zk_F R_M 59 4 9 R_M T_M 13 := ⟨rfl, by decide, zk_mem 453 (by decide +kernel) rfl, in_M, rfl⟩
theorem k_M_63 : zk_LV R_M 63 y_M_isMethod b_M_isMethod 3 (some .boolean) 2 := ⟨zk_mem 551 (by decide +kernel) rfl, ⟨zk_mem 553 (by decide +kernel) rfl, zk_mem 25 (by decide +kernel) rfl⟩, zk_mem 42 (by decide +kernel) rfl, zk_mem 554 (by decide +kernel) rfl, by decide +kernel⟩
theorem k_M_66 : zk_LV R_M 66 y_M_isUnder b_M_isUnder 7 (some .boolean) 3 := ⟨zk_mem 555 (by decide +kernel) rfl, ⟨zk_mem 557 (by decide +kernel) rfl, zk_mem 26 (by decide +kernel) rfl⟩, zk_mem 42 (by decide +kernel) rfl, zk_mem 558 (by decide +kernel) rfl, by decide +kernel⟩
theorem k_M_69 : zk_LV R_M 69 y_M_findField b_M_findField 9 (some .int) 4 := ⟨zk_mem 536 (by decide +kernel) rfl, ⟨zk_mem 538 (by decide +kernel) rfl, zk_mem 22 (by decide +kernel) rfl⟩, zk_mem 42 (by decide +kernel) rfl, zk_mem 539 (by decide +kernel) rfl, by decide +kernel⟩
theorem k_M_73 : zk_LS R_M 73 y_M_bit b_M_bit 2 (some .int) 2 := ⟨zk_mem 540 (by decide +kernel) rfl, zk_mem 541 (by decide +kernel) rfl, zk_mem 42 (by decide +kernel) rfl, zk_mem 542 (by decide +kernel) rfl, by decide +kernel⟩
theorem k_M_77 : zk_LV R_M 77 y_M_findMethod b_M_findMethod 10 (some .int) 5 := ⟨zk_mem 547 (by decide +kernel) rfl, ⟨zk_mem 549 (by decide +kernel) rfl, zk_mem 24 (by decide +kernel) rfl⟩, zk_mem 42 (by decide +kernel) rfl, zk_mem 550 (by decide +kernel) rfl, by decide +kernel⟩
theorem k_M_81 : zk_LV R_M 81 y_M_bindMethod b_M_bindMethod 5 (some .int) 3 := ⟨zk_mem 559 (by decide +kernel) rfl, ⟨zk_mem 561 (by decide +kernel) rfl, zk_mem 27 (by decide +kernel) rfl⟩, zk_mem 42 (by decide +kernel) rfl, zk_mem 562 (by decide +kernel) rfl, by decide +kernel⟩
theorem k_M_85 : zk_LV R_M 85 y_M_bindField b_M_bindField 7 (some .int) 4 := ⟨zk_mem 532 (by decide +kernel) rfl, ⟨zk_mem 534 (by decide +kernel) rfl, zk_mem 21 (by decide +kernel) rfl⟩, zk_mem 42 (by decide +kernel) rfl, zk_mem 535 (by decide +kernel) rfl, by decide +kernel⟩
theorem k_M_88 : zk_LV R_M 88 y_M_bindCall b_M_bindCall 8 (some .int) 5 := ⟨zk_mem 543 (by decide +kernel) rfl, ⟨zk_mem 545 (by decide +kernel) rfl, zk_mem 23 (by decide +kernel) rfl⟩, zk_mem 42 (by decide +kernel) rfl, zk_mem 546 (by decide +kernel) rfl, by decide +kernel⟩
theorem k_M_91 : zk_LV R_M 91 y_M_bindOverride b_M_bindOverride 6 (some .int) 4 := ⟨zk_mem 563 (by decide +kernel) rfl, ⟨zk_mem 565 (by decide +kernel) rfl, zk_mem 28 (by decide +kernel) rfl⟩, zk_mem 42 (by decide +kernel) rfl, zk_mem 566 (by decide +kernel) rfl, by decide +kernel⟩
theorem k_M_94 : zk_LV R_M 94 y_M_bind b_M_bind 8 (some .int) 2 := ⟨zk_mem 528 (by decide +kernel) rfl, ⟨zk_mem 530 (by decide +kernel) rfl, zk_mem 20 (by decide +kernel) rfl⟩, zk_mem 42 (by decide +kernel) rfl, zk_mem 531 (by decide +kernel) rfl, by decide +kernel⟩
theorem k_M_97 : zk_LV R_M 97 y_M_linkValue b_M_linkValue 5 (some .int) 2 := ⟨zk_mem 575 (by decide +kernel) rfl, ⟨zk_mem 577 (by decide +kernel) rfl, zk_mem 30 (by decide +kernel) rfl⟩, zk_mem 42 (by decide +kernel) rfl, zk_mem 578 (by decide +kernel) rfl, by decide +kernel⟩
theorem k_M_100 : zk_LV R_M 100 y_M_linkField b_M_linkField 5 (some .int) 3 := ⟨zk_mem 579 (by decide +kernel) rfl, ⟨zk_mem 581 (by decide +kernel) rfl, zk_mem 31 (by decide +kernel) rfl⟩, zk_mem 42 (by decide +kernel) rfl, zk_mem 582 (by decide +kernel) rfl, by decide +kernel⟩
theorem k_M_103 : zk_LV R_M 103 y_M_linkCall b_M_linkCall 4 (some .int) 2 := ⟨zk_mem 583 (by decide +kernel) rfl, ⟨zk_mem 585 (by decide +kernel) rfl, zk_mem 32 (by decide +kernel) rfl⟩, zk_mem 42 (by decide +kernel) rfl, zk_mem 586 (by decide +kernel) rfl, by decide +kernel⟩
theorem k_M_106 : zk_LV R_M 106 y_M_linkOverride b_M_linkOverride 5 (some .int) 2 := ⟨zk_mem 587 (by decide +kernel) rfl, ⟨zk_mem 589 (by decide +kernel) rfl, zk_mem 33 (by decide +kernel) rfl⟩, zk_mem 42 (by decide +kernel) rfl, zk_mem 590 (by decide +kernel) rfl, by decide +kernel⟩
theorem k_M_109 : zk_LV R_M 109 y_M_linked b_M_linked 7 (some .int) 1 := ⟨zk_mem 571 (by decide +kernel) rfl, ⟨zk_mem 573 (by decide +kernel) rfl, zk_mem 29 (by decide +kernel) rfl⟩, zk_mem 42 (by decide +kernel) rfl, zk_mem 574 (by decide +kernel) rfl, by decide +kernel⟩
theorem k_M_115 : zk_LV R_M 115 y_M_state b_M_state 2 (some .int) 1 := ⟨zk_mem 608 (by decide +kernel) rfl, ⟨zk_mem 610 (by decide +kernel) rfl, zk_mem 35 (by decide +kernel) rfl⟩, zk_mem 42 (by decide +kernel) rfl, zk_mem 611 (by decide +kernel) rfl, by decide +kernel⟩
theorem k_M_118 : zk_LV R_M 118 y_M_having b_M_having 4 (some .int) 1 := ⟨zk_mem 604 (by decide +kernel) rfl, ⟨zk_mem 606 (by decide +kernel) rfl, zk_mem 34 (by decide +kernel) rfl⟩, zk_mem 42 (by decide +kernel) rfl, zk_mem 607 (by decide +kernel) rfl, by decide +kernel⟩
theorem k_M_121 : zk_LV R_M 121 y_M_differences b_M_differences 9 (some .int) 1 := ⟨zk_mem 624 (by decide +kernel) rfl, ⟨zk_mem 626 (by decide +kernel) rfl, zk_mem 36 (by decide +kernel) rfl⟩, zk_mem 42 (by decide +kernel) rfl, zk_mem 627 (by decide +kernel) rfl, by decide +kernel⟩
theorem o_B_3 : zk_O R_B 3 := ⟨zk_mem 122 (by decide +kernel) rfl, zk_mem 50 (by decide +kernel) rfl, zk_mem 51 (by decide +kernel) rfl⟩
theorem f_B_9 : zk_F R_B 9 0 2 R_B T_B 9 := ⟨rfl, by decide, zk_mem 126 (by decide +kernel) rfl, in_B, rfl⟩
theorem f_B_15 : zk_FN R_B 15 2 1 R_U T_U 4 "ApiCompare" := ⟨rfl, by decide, zk_mem 103 (by decide +kernel) rfl, in_U, rfl⟩
theorem k_B_21 : zk_LV R_B 21 y_O_isInterface b_O_isInterface 2 (some .boolean) 1 := ⟨zk_mem 291 (by decide +kernel) rfl, ⟨zk_mem 194 (by decide +kernel) rfl, zk_mem 195 (by decide +kernel) rfl⟩, zk_mem 39 (by decide +kernel) rfl, zk_mem 196 (by decide +kernel) rfl, by decide +kernel⟩
theorem f_B_27 : zk_F R_B 27 0 1 R_B T_B 9 := ⟨rfl, by decide, zk_mem 125 (by decide +kernel) rfl, in_B, rfl⟩
theorem k_B_30 : zk_LV R_B 30 y_O_isThere b_O_isThere 2 (some .boolean) 1 := ⟨zk_mem 292 (by decide +kernel) rfl, ⟨zk_mem 190 (by decide +kernel) rfl, zk_mem 191 (by decide +kernel) rfl⟩, zk_mem 39 (by decide +kernel) rfl, zk_mem 192 (by decide +kernel) rfl, by decide +kernel⟩
theorem k_B_33 : zk_LV R_B 33 y_O_isHidden b_O_isHidden 2 (some .boolean) 1 := ⟨zk_mem 293 (by decide +kernel) rfl, ⟨zk_mem 294 (by decide +kernel) rfl, zk_mem 295 (by decide +kernel) rfl⟩, zk_mem 39 (by decide +kernel) rfl, zk_mem 296 (by decide +kernel) rfl, by decide +kernel⟩
theorem f_B_36 : zk_F R_B 36 0 0 R_B T_B 9 := ⟨rfl, by decide, zk_mem 123 (by decide +kernel) rfl, in_B, rfl⟩
theorem f_B_39 : zk_FN R_B 39 2 0 R_U T_U 4 "ApiCompare" := ⟨rfl, by decide, zk_mem 100 (by decide +kernel) rfl, in_U, rfl⟩
theorem k_B_42 : zk_LV R_B 42 y_B_bindField b_B_bindField 5 (some .int) 2 := ⟨zk_mem 297 (by decide +kernel) rfl, ⟨zk_mem 299 (by decide +kernel) rfl, zk_mem 3 (by decide +kernel) rfl⟩, zk_mem 41 (by decide +kernel) rfl, zk_mem 300 (by decide +kernel) rfl, by decide +kernel⟩
theorem k_B_46 : zk_LV R_B 46 y_B_bindCall b_B_bindCall 6 (some .int) 2 := ⟨zk_mem 309 (by decide +kernel) rfl, ⟨zk_mem 311 (by decide +kernel) rfl, zk_mem 5 (by decide +kernel) rfl⟩, zk_mem 41 (by decide +kernel) rfl, zk_mem 312 (by decide +kernel) rfl, by decide +kernel⟩
theorem k_B_49 : zk_LV R_B 49 y_O_isAbstract b_O_isAbstract 2 (some .boolean) 1 := ⟨zk_mem 330 (by decide +kernel) rfl, ⟨zk_mem 331 (by decide +kernel) rfl, zk_mem 332 (by decide +kernel) rfl⟩, zk_mem 39 (by decide +kernel) rfl, zk_mem 333 (by decide +kernel) rfl, by decide +kernel⟩
theorem k_B_52 : zk_LV R_B 52 y_O_isFinal b_O_isFinal 2 (some .boolean) 1 := ⟨zk_mem 334 (by decide +kernel) rfl, ⟨zk_mem 335 (by decide +kernel) rfl, zk_mem 336 (by decide +kernel) rfl⟩, zk_mem 39 (by decide +kernel) rfl, zk_mem 337 (by decide +kernel) rfl, by decide +kernel⟩
theorem k_B_55 : zk_LV R_B 55 y_B_bindOverride b_B_bindOverride 4 (some .int) 2 := ⟨zk_mem 338 (by decide +kernel) rfl, ⟨zk_mem 340 (by decide +kernel) rfl, zk_mem 8 (by decide +kernel) rfl⟩, zk_mem 41 (by decide +kernel) rfl, zk_mem 341 (by decide +kernel) rfl, by decide +kernel⟩
theorem f_B_58 : zk_FN R_B 58 2 2 R_U T_U 4 "ApiCompare" := ⟨rfl, by decide, zk_mem 105 (by decide +kernel) rfl, in_U, rfl⟩
theorem k_B_61 : zk_LV R_B 61 y_O_findField b_O_findField 4 (some .int) 3 := ⟨zk_mem 301 (by decide +kernel) rfl, ⟨zk_mem 302 (by decide +kernel) rfl, zk_mem 303 (by decide +kernel) rfl⟩, zk_mem 39 (by decide +kernel) rfl, zk_mem 304 (by decide +kernel) rfl, by decide +kernel⟩
theorem f_B_65 : zk_FN R_B 65 1 3 R_O T_O 8 "ApiCompare" := ⟨rfl, by decide, zk_mem 63 (by decide +kernel) rfl, in_O, rfl⟩
theorem f_B_69 : zk_FN R_B 69 1 4 R_O T_O 8 "ApiCompare" := ⟨rfl, by decide, zk_mem 66 (by decide +kernel) rfl, in_O, rfl⟩
theorem f_B_72 : zk_F R_B 72 0 3 R_B T_B 9 := ⟨rfl, by decide, zk_mem 128 (by decide +kernel) rfl, in_B, rfl⟩
theorem f_B_74 : zk_FN R_B 74 1 5 R_O T_O 8 "ApiCompare" := ⟨rfl, by decide, zk_mem 68 (by decide +kernel) rfl, in_O, rfl⟩
theorem f_B_77 : zk_F R_B 77 0 4 R_B T_B 9 := ⟨rfl, by decide, zk_mem 130 (by decide +kernel) rfl, in_B, rfl⟩
theorem f_B_80 : zk_F R_B 80 0 5 R_B T_B 9 := ⟨rfl, by decide, zk_mem 132 (by decide +kernel) rfl, in_B, rfl⟩
theorem f_B_83 : zk_FN R_B 83 2 3 R_U T_U 4 "ApiCompare" := ⟨rfl, by decide, zk_mem 107 (by decide +kernel) rfl, in_U, rfl⟩
theorem k_B_86 : zk_LV R_B 86 y_O_findMethod b_O_findMethod 9 (some .int) 4 := ⟨zk_mem 313 (by decide +kernel) rfl, ⟨zk_mem 314 (by decide +kernel) rfl, zk_mem 315 (by decide +kernel) rfl⟩, zk_mem 39 (by decide +kernel) rfl, zk_mem 316 (by decide +kernel) rfl, by decide +kernel⟩
theorem f_B_90 : zk_FN R_B 90 1 6 R_O T_O 8 "ApiCompare" := ⟨rfl, by decide, zk_mem 70 (by decide +kernel) rfl, in_O, rfl⟩
theorem k_B_93 : zk_LV R_B 93 y_B_bindMethod b_B_bindMethod 4 (some .int) 3 := ⟨zk_mem 326 (by decide +kernel) rfl, ⟨zk_mem 328 (by decide +kernel) rfl, zk_mem 7 (by decide +kernel) rfl⟩, zk_mem 41 (by decide +kernel) rfl, zk_mem 329 (by decide +kernel) rfl, by decide +kernel⟩
theorem f_B_97 : zk_F R_B 97 0 6 R_B T_B 9 := ⟨rfl, by decide, zk_mem 133 (by decide +kernel) rfl, in_B, rfl⟩
theorem f_B_100 : zk_FN R_B 100 1 7 R_O T_O 8 "ApiCompare" := ⟨rfl, by decide, zk_mem 73 (by decide +kernel) rfl, in_O, rfl⟩
theorem f_B_103 : zk_F R_B 103 0 7 R_B T_B 9 := ⟨rfl, by decide, zk_mem 134 (by decide +kernel) rfl, in_B, rfl⟩
theorem f_B_106 : zk_F R_B 106 0 8 R_B T_B 9 := ⟨rfl, by decide, zk_mem 135 (by decide +kernel) rfl, in_B, rfl⟩
theorem k_B_109 : zk_LV R_B 109 y_B_isSameField b_B_isSameField 2 (some .boolean) 1 := ⟨zk_mem 382 (by decide +kernel) rfl, ⟨zk_mem 384 (by decide +kernel) rfl, zk_mem 15 (by decide +kernel) rfl⟩, zk_mem 41 (by decide +kernel) rfl, zk_mem 385 (by decide +kernel) rfl, by decide +kernel⟩
theorem k_B_113 : zk_LV R_B 113 y_B_isStillValue b_B_isStillValue 4 (some .boolean) 2 := ⟨zk_mem 354 (by decide +kernel) rfl, ⟨zk_mem 356 (by decide +kernel) rfl, zk_mem 10 (by decide +kernel) rfl⟩, zk_mem 41 (by decide +kernel) rfl, zk_mem 357 (by decide +kernel) rfl, by decide +kernel⟩
theorem k_B_117 : zk_LV R_B 117 y_B_fateOfField b_B_fateOfField 5 (some .int) 2 := ⟨zk_mem 358 (by decide +kernel) rfl, ⟨zk_mem 360 (by decide +kernel) rfl, zk_mem 11 (by decide +kernel) rfl⟩, zk_mem 41 (by decide +kernel) rfl, zk_mem 361 (by decide +kernel) rfl, by decide +kernel⟩
theorem k_B_120 : zk_LV R_B 120 y_B_fateOfCall b_B_fateOfCall 5 (some .int) 2 := ⟨zk_mem 362 (by decide +kernel) rfl, ⟨zk_mem 364 (by decide +kernel) rfl, zk_mem 12 (by decide +kernel) rfl⟩, zk_mem 41 (by decide +kernel) rfl, zk_mem 365 (by decide +kernel) rfl, by decide +kernel⟩
theorem k_B_123 : zk_LV R_B 123 y_B_isSubtypeBarred b_B_isSubtypeBarred 3 (some .boolean) 2 := ⟨zk_mem 366 (by decide +kernel) rfl, ⟨zk_mem 368 (by decide +kernel) rfl, zk_mem 13 (by decide +kernel) rfl⟩, zk_mem 41 (by decide +kernel) rfl, zk_mem 369 (by decide +kernel) rfl, by decide +kernel⟩
theorem k_B_126 : zk_LV R_B 126 y_B_fateOfOverride b_B_fateOfOverride 4 (some .int) 2 := ⟨zk_mem 370 (by decide +kernel) rfl, ⟨zk_mem 372 (by decide +kernel) rfl, zk_mem 14 (by decide +kernel) rfl⟩, zk_mem 41 (by decide +kernel) rfl, zk_mem 373 (by decide +kernel) rfl, by decide +kernel⟩
theorem o_O_3 : zk_O R_O 3 := ⟨zk_mem 57 (by decide +kernel) rfl, zk_mem 50 (by decide +kernel) rfl, zk_mem 51 (by decide +kernel) rfl⟩
theorem f_O_9 : zk_F R_O 9 1 0 R_O T_O 8 := ⟨rfl, by decide, zk_mem 58 (by decide +kernel) rfl, in_O, rfl⟩
theorem f_O_15 : zk_F R_O 15 1 1 R_O T_O 8 := ⟨rfl, by decide, zk_mem 60 (by decide +kernel) rfl, in_O, rfl⟩
theorem f_O_18 : zk_F R_O 18 1 2 R_O T_O 8 := ⟨rfl, by decide, zk_mem 61 (by decide +kernel) rfl, in_O, rfl⟩
theorem f_O_21 : zk_F R_O 21 1 3 R_O T_O 8 := ⟨rfl, by decide, zk_mem 62 (by decide +kernel) rfl, in_O, rfl⟩
theorem f_O_24 : zk_F R_O 24 1 4 R_O T_O 8 := ⟨rfl, by decide, zk_mem 65 (by decide +kernel) rfl, in_O, rfl⟩
theorem f_O_27 : zk_F R_O 27 1 5 R_O T_O 8 := ⟨rfl, by decide, zk_mem 67 (by decide +kernel) rfl, in_O, rfl⟩
theorem f_O_30 : zk_F R_O 30 1 6 R_O T_O 8 := ⟨rfl, by decide, zk_mem 69 (by decide +kernel) rfl, in_O, rfl⟩
theorem f_O_33 : zk_F R_O 33 1 7 R_O T_O 8 := ⟨rfl, by decide, zk_mem 72 (by decide +kernel) rfl, in_O, rfl⟩
theorem k_O_36 : zk_LV R_O 36 y_O_hasFlag b_O_hasFlag 3 (some .boolean) 2 := ⟨zk_mem 197 (by decide +kernel) rfl, ⟨zk_mem 199 (by decide +kernel) rfl, zk_mem 1 (by decide +kernel) rfl⟩, zk_mem 39 (by decide +kernel) rfl, zk_mem 200 (by decide +kernel) rfl, by decide +kernel⟩
theorem k_O_40 : zk_LV R_O 40 y_O_isThere b_O_isThere 2 (some .boolean) 1 := ⟨zk_mem 189 (by decide +kernel) rfl, ⟨zk_mem 190 (by decide +kernel) rfl, zk_mem 191 (by decide +kernel) rfl⟩, zk_mem 39 (by decide +kernel) rfl, zk_mem 192 (by decide +kernel) rfl, by decide +kernel⟩
theorem k_O_44 : zk_LV R_O 44 y_O_isInterface b_O_isInterface 2 (some .boolean) 1 := ⟨zk_mem 193 (by decide +kernel) rfl, ⟨zk_mem 194 (by decide +kernel) rfl, zk_mem 195 (by decide +kernel) rfl⟩, zk_mem 39 (by decide +kernel) rfl, zk_mem 196 (by decide +kernel) rfl, by decide +kernel⟩
theorem k_O_47 : zk_LSN R_O 47 y_A_holds b_A_holds 2 (some .boolean) 2 "ApiCompare" := ⟨zk_mem 201 (by decide +kernel) rfl, zk_mem 202 (by decide +kernel) rfl, zk_mem 38 (by decide +kernel) rfl, zk_mem 203 (by decide +kernel) rfl, by decide +kernel⟩
theorem k_O_50 : zk_LV R_O 50 y_O_putType b_O_putType 5 none 4 := ⟨zk_mem 226 (by decide +kernel) rfl, ⟨zk_mem 211 (by decide +kernel) rfl, zk_mem 212 (by decide +kernel) rfl⟩, zk_mem 39 (by decide +kernel) rfl, zk_mem 213 (by decide +kernel) rfl, by decide +kernel⟩
theorem a_O_54 : zk_AC R_O 54 := ⟨zk_mem 272 (by decide +kernel) rfl, zk_mem 274 (by decide +kernel) rfl, zk_mem 273 (by decide +kernel) rfl, zk_mem 43 (by decide +kernel) rfl⟩
theorem k_O_60 : zk_LV R_O 60 y_O_findFieldFrom b_O_findFieldFrom 8 (some .int) 4 := ⟨zk_mem 305 (by decide +kernel) rfl, ⟨zk_mem 307 (by decide +kernel) rfl, zk_mem 4 (by decide +kernel) rfl⟩, zk_mem 39 (by decide +kernel) rfl, zk_mem 308 (by decide +kernel) rfl, by decide +kernel⟩
theorem k_O_64 : zk_LSN R_O 64 y_A_methodPlace b_A_methodPlace 3 (some .int) 3 "ApiCompare" := ⟨zk_mem 317 (by decide +kernel) rfl, zk_mem 246 (by decide +kernel) rfl, zk_mem 38 (by decide +kernel) rfl, zk_mem 247 (by decide +kernel) rfl, by decide +kernel⟩
theorem k_O_68 : zk_LV R_O 68 y_O_isMethodAt b_O_isMethodAt 3 (some .boolean) 2 := ⟨zk_mem 318 (by decide +kernel) rfl, ⟨zk_mem 320 (by decide +kernel) rfl, zk_mem 6 (by decide +kernel) rfl⟩, zk_mem 39 (by decide +kernel) rfl, zk_mem 321 (by decide +kernel) rfl, by decide +kernel⟩
theorem k_O_71 : zk_LV R_O 71 y_O_supertypesOf b_O_supertypesOf 4 (some .int) 1 := ⟨zk_mem 322 (by decide +kernel) rfl, ⟨zk_mem 323 (by decide +kernel) rfl, zk_mem 324 (by decide +kernel) rfl⟩, zk_mem 39 (by decide +kernel) rfl, zk_mem 325 (by decide +kernel) rfl, by decide +kernel⟩
theorem k_O_75 : zk_LV R_O 75 y_O_isSameField b_O_isSameField 3 (some .boolean) 2 := ⟨zk_mem 417 (by decide +kernel) rfl, ⟨zk_mem 419 (by decide +kernel) rfl, zk_mem 16 (by decide +kernel) rfl⟩, zk_mem 39 (by decide +kernel) rfl, zk_mem 420 (by decide +kernel) rfl, by decide +kernel⟩
theorem k_O_79 : zk_LV R_O 79 y_O_isSameMethod b_O_isSameMethod 3 (some .boolean) 2 := ⟨zk_mem 421 (by decide +kernel) rfl, ⟨zk_mem 423 (by decide +kernel) rfl, zk_mem 17 (by decide +kernel) rfl⟩, zk_mem 39 (by decide +kernel) rfl, zk_mem 424 (by decide +kernel) rfl, by decide +kernel⟩
theorem o_U_1 : zk_O R_U 1 := ⟨zk_mem 98 (by decide +kernel) rfl, zk_mem 50 (by decide +kernel) rfl, zk_mem 51 (by decide +kernel) rfl⟩
theorem f_U_7 : zk_F R_U 7 2 0 R_U T_U 4 := ⟨rfl, by decide, zk_mem 99 (by decide +kernel) rfl, in_U, rfl⟩
theorem f_U_13 : zk_F R_U 13 2 1 R_U T_U 4 := ⟨rfl, by decide, zk_mem 102 (by decide +kernel) rfl, in_U, rfl⟩
theorem f_U_16 : zk_F R_U 16 2 2 R_U T_U 4 := ⟨rfl, by decide, zk_mem 104 (by decide +kernel) rfl, in_U, rfl⟩
theorem f_U_19 : zk_F R_U 19 2 3 R_U T_U 4 := ⟨rfl, by decide, zk_mem 106 (by decide +kernel) rfl, in_U, rfl⟩
theorem n_L_7 : zk_N R_L 7 3 R_A T_A 6 := ⟨rfl, zk_mem 44 (by decide +kernel) rfl, zk_mem 45 (by decide +kernel) rfl, zk_mem 38 (by decide +kernel) rfl, in_A⟩
theorem k_L_9 : zk_LI R_L 9 y_A_init b_A_init 2 0 := ⟨zk_mem 46 (by decide +kernel) rfl, ⟨zk_mem 47 (by decide +kernel) rfl, rfl⟩, zk_mem 38 (by decide +kernel) rfl, zk_mem 48 (by decide +kernel) rfl, by decide +kernel⟩
theorem n_L_10 : zk_N R_L 10 4 R_M T_M 13 := ⟨rfl, zk_mem 438 (by decide +kernel) rfl, zk_mem 439 (by decide +kernel) rfl, zk_mem 42 (by decide +kernel) rfl, in_M⟩
theorem k_L_12 : zk_LI R_L 12 y_M_init b_M_init 2 0 := ⟨zk_mem 440 (by decide +kernel) rfl, ⟨zk_mem 441 (by decide +kernel) rfl, rfl⟩, zk_mem 42 (by decide +kernel) rfl, zk_mem 442 (by decide +kernel) rfl, by decide +kernel⟩
theorem k_L_13 : zk_LV R_L 13 y_A_type b_A_type 8 (some .int) 5 := ⟨zk_mem 174 (by decide +kernel) rfl, ⟨zk_mem 175 (by decide +kernel) rfl, zk_mem 176 (by decide +kernel) rfl⟩, zk_mem 38 (by decide +kernel) rfl, zk_mem 177 (by decide +kernel) rfl, by decide +kernel⟩
theorem k_L_17 : zk_LV R_L 17 y_M_type b_M_type 8 (some .int) 5 := ⟨zk_mem 485 (by decide +kernel) rfl, ⟨zk_mem 486 (by decide +kernel) rfl, zk_mem 487 (by decide +kernel) rfl⟩, zk_mem 42 (by decide +kernel) rfl, zk_mem 488 (by decide +kernel) rfl, by decide +kernel⟩
theorem k_L_18 : zk_LV R_L 18 y_A_drop b_A_drop 3 (some .int) 2 := ⟨zk_mem 214 (by decide +kernel) rfl, ⟨zk_mem 215 (by decide +kernel) rfl, zk_mem 216 (by decide +kernel) rfl⟩, zk_mem 38 (by decide +kernel) rfl, zk_mem 217 (by decide +kernel) rfl, by decide +kernel⟩
theorem k_L_22 : zk_LV R_L 22 y_M_drop b_M_drop 5 (some .int) 2 := ⟨zk_mem 500 (by decide +kernel) rfl, ⟨zk_mem 501 (by decide +kernel) rfl, zk_mem 502 (by decide +kernel) rfl⟩, zk_mem 42 (by decide +kernel) rfl, zk_mem 503 (by decide +kernel) rfl, by decide +kernel⟩
theorem k_L_23 : zk_LV R_L 23 y_A_field b_A_field 7 (some .int) 4 := ⟨zk_mem 227 (by decide +kernel) rfl, ⟨zk_mem 228 (by decide +kernel) rfl, zk_mem 229 (by decide +kernel) rfl⟩, zk_mem 38 (by decide +kernel) rfl, zk_mem 230 (by decide +kernel) rfl, by decide +kernel⟩
theorem k_L_27 : zk_LV R_L 27 y_M_field b_M_field 6 (some .int) 4 := ⟨zk_mem 504 (by decide +kernel) rfl, ⟨zk_mem 505 (by decide +kernel) rfl, zk_mem 506 (by decide +kernel) rfl⟩, zk_mem 42 (by decide +kernel) rfl, zk_mem 507 (by decide +kernel) rfl, by decide +kernel⟩
theorem k_L_28 : zk_LV R_L 28 y_A_method b_A_method 7 (some .int) 4 := ⟨zk_mem 238 (by decide +kernel) rfl, ⟨zk_mem 239 (by decide +kernel) rfl, zk_mem 240 (by decide +kernel) rfl⟩, zk_mem 38 (by decide +kernel) rfl, zk_mem 241 (by decide +kernel) rfl, by decide +kernel⟩
theorem k_L_31 : zk_LV R_L 31 y_M_method b_M_method 6 (some .int) 4 := ⟨zk_mem 508 (by decide +kernel) rfl, ⟨zk_mem 509 (by decide +kernel) rfl, zk_mem 510 (by decide +kernel) rfl⟩, zk_mem 42 (by decide +kernel) rfl, zk_mem 511 (by decide +kernel) rfl, by decide +kernel⟩
theorem k_L_32 : zk_LV R_L 32 y_A_cut b_A_cut 5 (some .int) 4 := ⟨zk_mem 252 (by decide +kernel) rfl, ⟨zk_mem 253 (by decide +kernel) rfl, zk_mem 254 (by decide +kernel) rfl⟩, zk_mem 38 (by decide +kernel) rfl, zk_mem 255 (by decide +kernel) rfl, by decide +kernel⟩
theorem k_L_35 : zk_LV R_L 35 y_M_cut b_M_cut 7 (some .int) 4 := ⟨zk_mem 512 (by decide +kernel) rfl, ⟨zk_mem 513 (by decide +kernel) rfl, zk_mem 514 (by decide +kernel) rfl⟩, zk_mem 42 (by decide +kernel) rfl, zk_mem 515 (by decide +kernel) rfl, by decide +kernel⟩
theorem k_L_36 : zk_LV R_L 36 y_A_copy b_A_copy 1 (some .int) 0 := ⟨zk_mem 264 (by decide +kernel) rfl, ⟨zk_mem 265 (by decide +kernel) rfl, zk_mem 266 (by decide +kernel) rfl⟩, zk_mem 38 (by decide +kernel) rfl, zk_mem 267 (by decide +kernel) rfl, by decide +kernel⟩
theorem k_L_40 : zk_LV R_L 40 y_M_copy b_M_copy 2 (some .int) 0 := ⟨zk_mem 516 (by decide +kernel) rfl, ⟨zk_mem 517 (by decide +kernel) rfl, zk_mem 518 (by decide +kernel) rfl⟩, zk_mem 42 (by decide +kernel) rfl, zk_mem 519 (by decide +kernel) rfl, by decide +kernel⟩
theorem k_L_41 : zk_LV R_L 41 y_A_use b_A_use 6 (some .int) 4 := ⟨zk_mem 275 (by decide +kernel) rfl, ⟨zk_mem 276 (by decide +kernel) rfl, zk_mem 277 (by decide +kernel) rfl⟩, zk_mem 38 (by decide +kernel) rfl, zk_mem 278 (by decide +kernel) rfl, by decide +kernel⟩
theorem k_L_44 : zk_LV R_L 44 y_M_use b_M_use 6 (some .int) 4 := ⟨zk_mem 520 (by decide +kernel) rfl, ⟨zk_mem 521 (by decide +kernel) rfl, zk_mem 522 (by decide +kernel) rfl⟩, zk_mem 42 (by decide +kernel) rfl, zk_mem 523 (by decide +kernel) rfl, by decide +kernel⟩
theorem k_L_45 : zk_LV R_L 45 y_A_compile b_A_compile 3 (some .int) 2 := ⟨zk_mem 283 (by decide +kernel) rfl, ⟨zk_mem 284 (by decide +kernel) rfl, zk_mem 285 (by decide +kernel) rfl⟩, zk_mem 38 (by decide +kernel) rfl, zk_mem 286 (by decide +kernel) rfl, by decide +kernel⟩
theorem k_L_48 : zk_LV R_L 48 y_M_compile b_M_compile 3 (some .int) 2 := ⟨zk_mem 524 (by decide +kernel) rfl, ⟨zk_mem 525 (by decide +kernel) rfl, zk_mem 526 (by decide +kernel) rfl⟩, zk_mem 42 (by decide +kernel) rfl, zk_mem 527 (by decide +kernel) rfl, by decide +kernel⟩
theorem k_L_49 : zk_LV R_L 49 y_A_link b_A_link 2 (some .int) 1 := ⟨zk_mem 342 (by decide +kernel) rfl, ⟨zk_mem 343 (by decide +kernel) rfl, zk_mem 344 (by decide +kernel) rfl⟩, zk_mem 38 (by decide +kernel) rfl, zk_mem 345 (by decide +kernel) rfl, by decide +kernel⟩
theorem k_L_53 : zk_LV R_L 53 y_M_link b_M_link 2 (some .int) 1 := ⟨zk_mem 567 (by decide +kernel) rfl, ⟨zk_mem 568 (by decide +kernel) rfl, zk_mem 569 (by decide +kernel) rfl⟩, zk_mem 42 (by decide +kernel) rfl, zk_mem 570 (by decide +kernel) rfl, by decide +kernel⟩
theorem k_L_54 : zk_LV R_L 54 y_A_recompile b_A_recompile 2 (some .int) 1 := ⟨zk_mem 374 (by decide +kernel) rfl, ⟨zk_mem 375 (by decide +kernel) rfl, zk_mem 376 (by decide +kernel) rfl⟩, zk_mem 38 (by decide +kernel) rfl, zk_mem 377 (by decide +kernel) rfl, by decide +kernel⟩
theorem k_L_57 : zk_LV R_L 57 y_M_recompile b_M_recompile 4 (some .int) 1 := ⟨zk_mem 591 (by decide +kernel) rfl, ⟨zk_mem 592 (by decide +kernel) rfl, zk_mem 593 (by decide +kernel) rfl⟩, zk_mem 42 (by decide +kernel) rfl, zk_mem 594 (by decide +kernel) rfl, by decide +kernel⟩
theorem k_L_58 : zk_LV R_L 58 y_A_value b_A_value 3 (some .double) 2 := ⟨zk_mem 386 (by decide +kernel) rfl, ⟨zk_mem 387 (by decide +kernel) rfl, zk_mem 388 (by decide +kernel) rfl⟩, zk_mem 38 (by decide +kernel) rfl, zk_mem 389 (by decide +kernel) rfl, by decide +kernel⟩
theorem k_L_62 : zk_LV R_L 62 y_M_value b_M_value 3 (some .double) 2 := ⟨zk_mem 595 (by decide +kernel) rfl, ⟨zk_mem 596 (by decide +kernel) rfl, zk_mem 597 (by decide +kernel) rfl⟩, zk_mem 42 (by decide +kernel) rfl, zk_mem 598 (by decide +kernel) rfl, by decide +kernel⟩
theorem k_L_63 : zk_LV R_L 63 y_A_share b_A_share 5 (some .double) 0 := ⟨zk_mem 391 (by decide +kernel) rfl, ⟨zk_mem 392 (by decide +kernel) rfl, zk_mem 393 (by decide +kernel) rfl⟩, zk_mem 38 (by decide +kernel) rfl, zk_mem 394 (by decide +kernel) rfl, by decide +kernel⟩
theorem k_L_67 : zk_LV R_L 67 y_M_share b_M_share 3 (some .double) 0 := ⟨zk_mem 600 (by decide +kernel) rfl, ⟨zk_mem 601 (by decide +kernel) rfl, zk_mem 602 (by decide +kernel) rfl⟩, zk_mem 42 (by decide +kernel) rfl, zk_mem 603 (by decide +kernel) rfl, by decide +kernel⟩
theorem k_L_68 : zk_LV R_L 68 y_A_breaking b_A_breaking 3 (some .int) 0 := ⟨zk_mem 398 (by decide +kernel) rfl, ⟨zk_mem 399 (by decide +kernel) rfl, zk_mem 400 (by decide +kernel) rfl⟩, zk_mem 38 (by decide +kernel) rfl, zk_mem 401 (by decide +kernel) rfl, by decide +kernel⟩
theorem k_L_71 : zk_LV R_L 71 y_M_breaking b_M_breaking 1 (some .int) 0 := ⟨zk_mem 612 (by decide +kernel) rfl, ⟨zk_mem 613 (by decide +kernel) rfl, zk_mem 614 (by decide +kernel) rfl⟩, zk_mem 42 (by decide +kernel) rfl, zk_mem 615 (by decide +kernel) rfl, by decide +kernel⟩
theorem k_L_72 : zk_LV R_L 72 y_A_broken b_A_broken 4 (some .int) 1 := ⟨zk_mem 405 (by decide +kernel) rfl, ⟨zk_mem 406 (by decide +kernel) rfl, zk_mem 407 (by decide +kernel) rfl⟩, zk_mem 38 (by decide +kernel) rfl, zk_mem 408 (by decide +kernel) rfl, by decide +kernel⟩
theorem k_L_75 : zk_LV R_L 75 y_M_broken b_M_broken 4 (some .int) 1 := ⟨zk_mem 616 (by decide +kernel) rfl, ⟨zk_mem 617 (by decide +kernel) rfl, zk_mem 618 (by decide +kernel) rfl⟩, zk_mem 42 (by decide +kernel) rfl, zk_mem 619 (by decide +kernel) rfl, by decide +kernel⟩
theorem k_L_76 : zk_LV R_L 76 y_A_differ b_A_differ 4 (some .int) 1 := ⟨zk_mem 409 (by decide +kernel) rfl, ⟨zk_mem 410 (by decide +kernel) rfl, zk_mem 411 (by decide +kernel) rfl⟩, zk_mem 38 (by decide +kernel) rfl, zk_mem 412 (by decide +kernel) rfl, by decide +kernel⟩
theorem k_L_79 : zk_LV R_L 79 y_M_differ b_M_differ 4 (some .int) 1 := ⟨zk_mem 620 (by decide +kernel) rfl, ⟨zk_mem 621 (by decide +kernel) rfl, zk_mem 622 (by decide +kernel) rfl⟩, zk_mem 42 (by decide +kernel) rfl, zk_mem 623 (by decide +kernel) rfl, by decide +kernel⟩
theorem k_L_80 : zk_LV R_L 80 y_A_under b_A_under 4 (some .boolean) 3 := ⟨zk_mem 425 (by decide +kernel) rfl, ⟨zk_mem 426 (by decide +kernel) rfl, zk_mem 427 (by decide +kernel) rfl⟩, zk_mem 38 (by decide +kernel) rfl, zk_mem 428 (by decide +kernel) rfl, by decide +kernel⟩
theorem k_L_84 : zk_LV R_L 84 y_M_under b_M_under 4 (some .boolean) 3 := ⟨zk_mem 628 (by decide +kernel) rfl, ⟨zk_mem 629 (by decide +kernel) rfl, zk_mem 630 (by decide +kernel) rfl⟩, zk_mem 42 (by decide +kernel) rfl, zk_mem 631 (by decide +kernel) rfl, by decide +kernel⟩
theorem k_L_85 : zk_LV R_L 85 y_A_count b_A_count 4 (some .int) 2 := ⟨zk_mem 431 (by decide +kernel) rfl, ⟨zk_mem 432 (by decide +kernel) rfl, zk_mem 433 (by decide +kernel) rfl⟩, zk_mem 38 (by decide +kernel) rfl, zk_mem 434 (by decide +kernel) rfl, by decide +kernel⟩
theorem k_L_88 : zk_LV R_L 88 y_M_count b_M_count 5 (some .int) 2 := ⟨zk_mem 632 (by decide +kernel) rfl, ⟨zk_mem 633 (by decide +kernel) rfl, zk_mem 634 (by decide +kernel) rfl⟩, zk_mem 42 (by decide +kernel) rfl, zk_mem 635 (by decide +kernel) rfl, by decide +kernel⟩
end
section
abbrev zo_O : Type := Nat → Nat → Int32
def zk_bit (x : Int32) (n : Nat) : Bool := decide (¬ (x >>> (nI n &&& 31)) &&& nI 1 = 0)
def zo_at (h : zk_H) (o : Nat) (O : zo_O) : Prop := h[o]? = some (.inr (1, [.ref (o + 2), .ref (o + 3), .ref (o + 4), .ref (o + 5), .ref (o + 6), .ref (o + 7), .ref (o + 8), .ref (o + 9)])) ∧ h[o + 1]? = some (.inl (0, 6, .inl (O 0))) ∧ h[o + 2]? = some (.inl (0, 6, .inl (O 1))) ∧ h[o + 3]? = some (.inl (0, 6, .inl (O 2))) ∧ h[o + 4]? = some (.inl (0, 24, .inl (O 3))) ∧ h[o + 5]? = some (.inl (0, 24, .inl (O 4))) ∧ h[o + 6]? = some (.inl (0, 24, .inl (O 5))) ∧ h[o + 7]? = some (.inl (0, 72, .inl (O 6))) ∧ h[o + 8]? = some (.inl (0, 72, .inl (O 7)))
def zo_th (O : zo_O) (t : Nat) : Bool := decide (¬ O 0 t = -1)
def zo_hf (O : zo_O) (t : Nat) (fl : Int32) : Bool := decide (¬ O 0 t = -1 ∧ ¬ O 0 t &&& fl = 0)
def zo_ma (O : zo_O) (pl : Nat) (an : Int32) : Bool := decide (¬ O 6 pl = -1 ∧ (an = -1 ∨ O 7 pl = an))
def zo_sf (O P : zo_O) (pl : Nat) : Bool := decide (O 3 pl = P 3 pl ∧ (O 3 pl = -1 ∨ (O 4 pl = P 4 pl ∧ O 5 pl = P 5 pl)))
def zo_sm (O P : zo_O) (pl : Nat) : Bool := decide (O 6 pl = P 6 pl ∧ (O 6 pl = -1 ∨ O 7 pl = P 7 pl))
abbrev rm_A_holds : Room := { frames := 0, cells := 0, slots := 0, locals := 0 }
set_option maxHeartbeats 4000000 in
set_option maxRecDepth 100000 in
/-- holds(set, number) -/
theorem sp_A_holds (l : Launch) {h : zk_H} {x : Int32} {n : Nat} {K : Option Value → zk_H → Prop} (hK : K (some (.int (zk_b (zk_bit x n)))) h) : zk_S l y_A_holds b_A_holds 2 (some .boolean) rm_A_holds [.int x, .int (nI n)] h K := by
  refine zk_S_of R_A "holds" (by decide) rfl rfl [some (.int x), some (.int (nI n))] 0 rfl (Nat.le_of_ble_eq_true rfl) (fun p e s m ar below meth c D dA b base C => ?_)
  refine zr_iload_n C d_A_holds_0 (n := 1) rfl rfl ?_
  refine zr_iload_n C d_A_holds_1 (n := 2) rfl rfl ?_
  refine zr_ishr C d_A_holds_2 (n := 3) rfl ?_
  refine zr_iconst C d_A_holds_3 (n := 4) rfl (v := nI 1) (by decide) ?_
  refine zr_iand C d_A_holds_4 (n := 5) rfl ?_
  refine zr_if_eq C d_A_holds_5 (n := 8) rfl (t := 12) (by decide) (fun c1 => ?_) (fun c1 => ?_)
  · refine zr_iconst C d_A_holds_12 (n := 13) rfl (v := nI 0) (by decide) ?_
    exact zr_zret C d_A_holds_13 (by first | (simp [zk_bit, zk_b, c1]; done) | simp_all [zk_bit, zk_b]) (by decide) hK (Nat.zero_le _) (Nat.zero_le _)
  · refine zr_iconst C d_A_holds_8 (n := 9) rfl (v := nI 1) (by decide) ?_
    refine zr_goto C d_A_holds_9 (t := 13) (by decide) ?_
    exact zr_zret C d_A_holds_13 (by first | (simp [zk_bit, zk_b, c1]; done) | simp_all [zk_bit, zk_b]) (by decide) hK (Nat.zero_le _) (Nat.zero_le _)
abbrev rm_A_methodPlace : Room := { frames := 0, cells := 0, slots := 0, locals := 0 }
set_option maxHeartbeats 4000000 in
set_option maxRecDepth 100000 in
/-- methodPlace -/
theorem sp_A_methodPlace (l : Launch) {h : zk_H} {t n q : Nat} {K : Option Value → zk_H → Prop} (hK : K (some (.int (nI (t * 12 + n * 4 + q)))) h) : zk_S l y_A_methodPlace b_A_methodPlace 3 (some .int) rm_A_methodPlace [.int (nI t), .int (nI n), .int (nI q)] h K := by
  refine zk_S_of R_A "methodPlace" (by decide) rfl rfl [some (.int (nI t)), some (.int (nI n)), some (.int (nI q))] 0 rfl (Nat.le_of_ble_eq_true rfl) (fun p e s m ar below meth c D dA b base C => ?_)
  refine zr_iload_n C d_A_methodPlace_0 (n := 1) rfl rfl ?_
  refine zr_bipush C d_A_methodPlace_1 (n := 3) rfl (v := nI 12) (by decide) ?_
  refine zr_imul C d_A_methodPlace_3 (n := 4) rfl ?_
  refine zr_iload_n C d_A_methodPlace_4 (n := 5) rfl rfl ?_
  refine zr_iconst C d_A_methodPlace_5 (n := 6) rfl (v := nI 4) (by decide) ?_
  refine zr_imul C d_A_methodPlace_6 (n := 7) rfl ?_
  refine zr_iadd C d_A_methodPlace_7 (n := 8) rfl ?_
  refine zr_iload_n C d_A_methodPlace_8 (n := 9) rfl rfl ?_
  refine zr_iadd C d_A_methodPlace_9 (n := 10) rfl ?_
  exact zr_iret C d_A_methodPlace_10 (by simp only [pk_mul, nI_add]) hK (Nat.zero_le _) (Nat.zero_le _)
abbrev rm_O_isThere : Room := { frames := 0, cells := 0, slots := 0, locals := 0 }
set_option maxHeartbeats 4000000 in
set_option maxRecDepth 100000 in
/-- isThere -/
theorem sp_O_isThere (l : Launch) {h : zk_H} {o : Nat} {O : zo_O} (hO : zo_at h o O) {t : Nat} (ht : t < 6) {K : Option Value → zk_H → Prop} (hK : K (some (.int (zk_b (zo_th O t)))) h) : zk_S l y_O_isThere b_O_isThere 2 (some .boolean) rm_O_isThere [.ref (o + 1), .int (nI t)] h K := by
  obtain ⟨ho, a0, a1, a2, a3, a4, a5, a6, a7⟩ := id hO
  refine zk_S_of R_O "isThere" (by decide) rfl rfl [some (.ref (o + 1)), some (.int (nI t))] 0 rfl (Nat.le_of_ble_eq_true rfl) (fun p e s m ar below meth c D dA b base C => ?_)
  refine zr_aload_n C d_O_isThere_0 (n := 1) rfl rfl ?_
  refine zr_get C f_O_9 d_O_isThere_1 (n := 4) rfl ho rfl ?_
  refine zr_iload_n C d_O_isThere_4 (n := 5) rfl rfl ?_
  refine zr_ialdN C d_O_isThere_5 (n := 6) rfl a0 rfl (by omega) (by decide) ?_
  refine zr_iconst C d_O_isThere_6 (n := 7) rfl (v := -1) (by decide) ?_
  refine zr_icmp_eq C d_O_isThere_7 (n := 10) rfl (t := 14) (by decide) (fun c1 => ?_) (fun c1 => ?_)
  · refine zr_iconst C d_O_isThere_14 (n := 15) rfl (v := nI 0) (by decide) ?_
    exact zr_zret C d_O_isThere_15 (by first | (simp [zo_th, zk_b, c1]; done) | simp_all [zo_th, zk_b]) (by decide) hK (Nat.zero_le _) (Nat.zero_le _)
  · refine zr_iconst C d_O_isThere_10 (n := 11) rfl (v := nI 1) (by decide) ?_
    refine zr_goto C d_O_isThere_11 (t := 15) (by decide) ?_
    exact zr_zret C d_O_isThere_15 (by first | (simp [zo_th, zk_b, c1]; done) | simp_all [zo_th, zk_b]) (by decide) hK (Nat.zero_le _) (Nat.zero_le _)
abbrev rm_O_hasFlag : Room := { frames := 0, cells := 0, slots := 0, locals := 0 }
set_option maxHeartbeats 4000000 in
set_option maxRecDepth 100000 in
/-- hasFlag -/
theorem sp_O_hasFlag (l : Launch) {h : zk_H} {o : Nat} {O : zo_O} (hO : zo_at h o O) {t : Nat} (ht : t < 6) {x : Int32} {K : Option Value → zk_H → Prop} (hK : K (some (.int (zk_b (zo_hf O t x)))) h) : zk_S l y_O_hasFlag b_O_hasFlag 3 (some .boolean) rm_O_hasFlag [.ref (o + 1), .int (nI t), .int x] h K := by
  obtain ⟨ho, a0, a1, a2, a3, a4, a5, a6, a7⟩ := id hO
  refine zk_S_of R_O "hasFlag" (by decide) rfl rfl [some (.ref (o + 1)), some (.int (nI t)), some (.int x)] 0 rfl (Nat.le_of_ble_eq_true rfl) (fun p e s m ar below meth c D dA b base C => ?_)
  refine zr_aload_n C d_O_hasFlag_0 (n := 1) rfl rfl ?_
  refine zr_get C f_O_9 d_O_hasFlag_1 (n := 4) rfl ho rfl ?_
  refine zr_iload_n C d_O_hasFlag_4 (n := 5) rfl rfl ?_
  refine zr_ialdN C d_O_hasFlag_5 (n := 6) rfl a0 rfl (by omega) (by decide) ?_
  refine zr_iconst C d_O_hasFlag_6 (n := 7) rfl (v := -1) (by decide) ?_
  refine zr_icmp_eq C d_O_hasFlag_7 (n := 10) rfl (t := 25) (by decide) (fun c1 => ?_) (fun c1 => ?_)
  · refine zr_iconst C d_O_hasFlag_25 (n := 26) rfl (v := nI 0) (by decide) ?_
    exact zr_zret C d_O_hasFlag_26 (by first | (simp [zo_hf, zk_b, c1]; done) | simp_all [zo_hf, zk_b]) (by decide) hK (Nat.zero_le _) (Nat.zero_le _)
  · refine zr_aload_n C d_O_hasFlag_10 (n := 11) rfl rfl ?_
    refine zr_get C f_O_9 d_O_hasFlag_11 (n := 14) rfl ho rfl ?_
    refine zr_iload_n C d_O_hasFlag_14 (n := 15) rfl rfl ?_
    refine zr_ialdN C d_O_hasFlag_15 (n := 16) rfl a0 rfl (by omega) (by decide) ?_
    refine zr_iload_n C d_O_hasFlag_16 (n := 17) rfl rfl ?_
    refine zr_iand C d_O_hasFlag_17 (n := 18) rfl ?_
    refine zr_if_eq C d_O_hasFlag_18 (n := 21) rfl (t := 25) (by decide) (fun c2 => ?_) (fun c2 => ?_)
    · refine zr_iconst C d_O_hasFlag_25 (n := 26) rfl (v := nI 0) (by decide) ?_
      exact zr_zret C d_O_hasFlag_26 (by first | (simp [zo_hf, zk_b, c1, c2]; done) | simp_all [zo_hf, zk_b]) (by decide) hK (Nat.zero_le _) (Nat.zero_le _)
    · refine zr_iconst C d_O_hasFlag_21 (n := 22) rfl (v := nI 1) (by decide) ?_
      refine zr_goto C d_O_hasFlag_22 (t := 26) (by decide) ?_
      exact zr_zret C d_O_hasFlag_26 (by first | (simp [zo_hf, zk_b, c1, c2]; done) | simp_all [zo_hf, zk_b]) (by decide) hK (Nat.zero_le _) (Nat.zero_le _)
abbrev rm_O_isInterface : Room := { frames := 1, cells := 0, slots := 0, locals := 22 }
set_option maxHeartbeats 4000000 in
set_option maxRecDepth 100000 in
/-- isInterface -/
theorem sp_O_isInterface (l : Launch) {h : zk_H} {o : Nat} {O : zo_O} (hO : zo_at h o O) {t : Nat} (ht : t < 6) {K : Option Value → zk_H → Prop} (hK : K (some (.int (zk_b (zo_hf O t (nI 1))))) h) : zk_S l y_O_isInterface b_O_isInterface 2 (some .boolean) rm_O_isInterface [.ref (o + 1), .int (nI t)] h K := by
  obtain ⟨ho, a0, a1, a2, a3, a4, a5, a6, a7⟩ := id hO
  refine zk_S_of R_O "isInterface" (by decide) rfl rfl [some (.ref (o + 1)), some (.int (nI t))] 0 rfl (Nat.le_of_ble_eq_true rfl) (fun p e s m ar below meth c D dA b base C => ?_)
  refine zr_aload_n C d_O_isInterface_0 (n := 1) rfl rfl ?_
  refine zr_iload_n C d_O_isInterface_1 (n := 2) rfl rfl ?_
  refine zr_iconst C d_O_isInterface_2 (n := 3) rfl (v := nI 1) (by decide) ?_
  refine zr_callV2 C k_O_36 d_O_isInterface_3 (nx := 6) rfl ho rfl ⟨by decide, by decide⟩ (by decide) ⟨by decide, by decide⟩ (sp_O_hasFlag l hO ht ?_)
  exact zr_zret C d_O_isInterface_6 rfl (zk_nb _) hK (Nat.zero_le _) (Nat.zero_le _)
abbrev rm_O_isHidden : Room := { frames := 1, cells := 0, slots := 0, locals := 22 }
set_option maxHeartbeats 4000000 in
set_option maxRecDepth 100000 in
/-- isHidden -/
theorem sp_O_isHidden (l : Launch) {h : zk_H} {o : Nat} {O : zo_O} (hO : zo_at h o O) {t : Nat} (ht : t < 6) {K : Option Value → zk_H → Prop} (hK : K (some (.int (zk_b (zo_hf O t (nI 8))))) h) : zk_S l y_O_isHidden b_O_isHidden 2 (some .boolean) rm_O_isHidden [.ref (o + 1), .int (nI t)] h K := by
  obtain ⟨ho, a0, a1, a2, a3, a4, a5, a6, a7⟩ := id hO
  refine zk_S_of R_O "isHidden" (by decide) rfl rfl [some (.ref (o + 1)), some (.int (nI t))] 0 rfl (Nat.le_of_ble_eq_true rfl) (fun p e s m ar below meth c D dA b base C => ?_)
  refine zr_aload_n C d_O_isHidden_0 (n := 1) rfl rfl ?_
  refine zr_iload_n C d_O_isHidden_1 (n := 2) rfl rfl ?_
  refine zr_bipush C d_O_isHidden_2 (n := 4) rfl (v := nI 8) (by decide) ?_
  refine zr_callV2 C k_O_36 d_O_isHidden_4 (nx := 7) rfl ho rfl ⟨by decide, by decide⟩ (by decide) ⟨by decide, by decide⟩ (sp_O_hasFlag l hO ht ?_)
  exact zr_zret C d_O_isHidden_7 rfl (zk_nb _) hK (Nat.zero_le _) (Nat.zero_le _)
abbrev rm_O_isFinal : Room := { frames := 1, cells := 0, slots := 0, locals := 22 }
set_option maxHeartbeats 4000000 in
set_option maxRecDepth 100000 in
/-- isFinal -/
theorem sp_O_isFinal (l : Launch) {h : zk_H} {o : Nat} {O : zo_O} (hO : zo_at h o O) {t : Nat} (ht : t < 6) {K : Option Value → zk_H → Prop} (hK : K (some (.int (zk_b (zo_hf O t (nI 4))))) h) : zk_S l y_O_isFinal b_O_isFinal 2 (some .boolean) rm_O_isFinal [.ref (o + 1), .int (nI t)] h K := by
  obtain ⟨ho, a0, a1, a2, a3, a4, a5, a6, a7⟩ := id hO
  refine zk_S_of R_O "isFinal" (by decide) rfl rfl [some (.ref (o + 1)), some (.int (nI t))] 0 rfl (Nat.le_of_ble_eq_true rfl) (fun p e s m ar below meth c D dA b base C => ?_)
  refine zr_aload_n C d_O_isFinal_0 (n := 1) rfl rfl ?_
  refine zr_iload_n C d_O_isFinal_1 (n := 2) rfl rfl ?_
  refine zr_iconst C d_O_isFinal_2 (n := 3) rfl (v := nI 4) (by decide) ?_
  refine zr_callV2 C k_O_36 d_O_isFinal_3 (nx := 6) rfl ho rfl ⟨by decide, by decide⟩ (by decide) ⟨by decide, by decide⟩ (sp_O_hasFlag l hO ht ?_)
  exact zr_zret C d_O_isFinal_6 rfl (zk_nb _) hK (Nat.zero_le _) (Nat.zero_le _)
abbrev rm_O_isAbstract : Room := { frames := 1, cells := 0, slots := 0, locals := 22 }
set_option maxHeartbeats 4000000 in
set_option maxRecDepth 100000 in
/-- isAbstract -/
theorem sp_O_isAbstract (l : Launch) {h : zk_H} {o : Nat} {O : zo_O} (hO : zo_at h o O) {t : Nat} (ht : t < 6) {K : Option Value → zk_H → Prop} (hK : K (some (.int (zk_b (zo_hf O t (nI 3))))) h) : zk_S l y_O_isAbstract b_O_isAbstract 2 (some .boolean) rm_O_isAbstract [.ref (o + 1), .int (nI t)] h K := by
  obtain ⟨ho, a0, a1, a2, a3, a4, a5, a6, a7⟩ := id hO
  refine zk_S_of R_O "isAbstract" (by decide) rfl rfl [some (.ref (o + 1)), some (.int (nI t))] 0 rfl (Nat.le_of_ble_eq_true rfl) (fun p e s m ar below meth c D dA b base C => ?_)
  refine zr_aload_n C d_O_isAbstract_0 (n := 1) rfl rfl ?_
  refine zr_iload_n C d_O_isAbstract_1 (n := 2) rfl rfl ?_
  refine zr_iconst C d_O_isAbstract_2 (n := 3) rfl (v := nI 3) (by decide) ?_
  refine zr_callV2 C k_O_36 d_O_isAbstract_3 (nx := 6) rfl ho rfl ⟨by decide, by decide⟩ (by decide) ⟨by decide, by decide⟩ (sp_O_hasFlag l hO ht ?_)
  exact zr_zret C d_O_isAbstract_6 rfl (zk_nb _) hK (Nat.zero_le _) (Nat.zero_le _)
abbrev rm_O_isMethodAt : Room := { frames := 0, cells := 0, slots := 0, locals := 0 }
set_option maxHeartbeats 4000000 in
set_option maxRecDepth 100000 in
/-- isMethodAt -/
theorem sp_O_isMethodAt (l : Launch) {h : zk_H} {o : Nat} {O : zo_O} (hO : zo_at h o O) {j : Nat} (hj : j < 72) {x : Int32} {K : Option Value → zk_H → Prop} (hK : K (some (.int (zk_b (zo_ma O j x)))) h) : zk_S l y_O_isMethodAt b_O_isMethodAt 3 (some .boolean) rm_O_isMethodAt [.ref (o + 1), .int (nI j), .int x] h K := by
  obtain ⟨ho, a0, a1, a2, a3, a4, a5, a6, a7⟩ := id hO
  refine zk_S_of R_O "isMethodAt" (by decide) rfl rfl [some (.ref (o + 1)), some (.int (nI j)), some (.int x)] 0 rfl (Nat.le_of_ble_eq_true rfl) (fun p e s m ar below meth c D dA b base C => ?_)
  refine zr_aload_n C d_O_isMethodAt_0 (n := 1) rfl rfl ?_
  refine zr_get C f_O_30 d_O_isMethodAt_1 (n := 4) rfl ho rfl ?_
  refine zr_iload_n C d_O_isMethodAt_4 (n := 5) rfl rfl ?_
  refine zr_ialdN C d_O_isMethodAt_5 (n := 6) rfl a6 rfl (by omega) (by decide) ?_
  refine zr_iconst C d_O_isMethodAt_6 (n := 7) rfl (v := -1) (by decide) ?_
  refine zr_icmp_eq C d_O_isMethodAt_7 (n := 10) rfl (t := 29) (by decide) (fun c1 => ?_) (fun c1 => ?_)
  · refine zr_iconst C d_O_isMethodAt_29 (n := 30) rfl (v := nI 0) (by decide) ?_
    exact zr_zret C d_O_isMethodAt_30 (by first | (simp [zo_ma, zk_b, c1]; done) | simp_all [zo_ma, zk_b]) (by decide) hK (Nat.zero_le _) (Nat.zero_le _)
  · refine zr_iload_n C d_O_isMethodAt_10 (n := 11) rfl rfl ?_
    refine zr_iconst C d_O_isMethodAt_11 (n := 12) rfl (v := -1) (by decide) ?_
    refine zr_icmp_eq C d_O_isMethodAt_12 (n := 15) rfl (t := 25) (by decide) (fun c2 => ?_) (fun c2 => ?_)
    · refine zr_iconst C d_O_isMethodAt_25 (n := 26) rfl (v := nI 1) (by decide) ?_
      refine zr_goto C d_O_isMethodAt_26 (t := 30) (by decide) ?_
      exact zr_zret C d_O_isMethodAt_30 (by first | (simp [zo_ma, zk_b, c1, c2]; done) | simp_all [zo_ma, zk_b]) (by decide) hK (Nat.zero_le _) (Nat.zero_le _)
    · refine zr_aload_n C d_O_isMethodAt_15 (n := 16) rfl rfl ?_
      refine zr_get C f_O_33 d_O_isMethodAt_16 (n := 19) rfl ho rfl ?_
      refine zr_iload_n C d_O_isMethodAt_19 (n := 20) rfl rfl ?_
      refine zr_ialdN C d_O_isMethodAt_20 (n := 21) rfl a7 rfl (by omega) (by decide) ?_
      refine zr_iload_n C d_O_isMethodAt_21 (n := 22) rfl rfl ?_
      refine zr_icmp_ne C d_O_isMethodAt_22 (n := 25) rfl (t := 29) (by decide) (fun c3 => ?_) (fun c3 => ?_)
      · refine zr_iconst C d_O_isMethodAt_29 (n := 30) rfl (v := nI 0) (by decide) ?_
        exact zr_zret C d_O_isMethodAt_30 (by first | (simp [zo_ma, zk_b, c1, c2, c3]; done) | simp_all [zo_ma, zk_b]) (by decide) hK (Nat.zero_le _) (Nat.zero_le _)
      · refine zr_iconst C d_O_isMethodAt_25 (n := 26) rfl (v := nI 1) (by decide) ?_
        refine zr_goto C d_O_isMethodAt_26 (t := 30) (by decide) ?_
        exact zr_zret C d_O_isMethodAt_30 (by first | (simp [zo_ma, zk_b, c1, c2, c3]; done) | simp_all [zo_ma, zk_b]) (by decide) hK (Nat.zero_le _) (Nat.zero_le _)
abbrev rm_O_isSameField : Room := { frames := 0, cells := 0, slots := 0, locals := 0 }
set_option maxHeartbeats 4000000 in
set_option maxRecDepth 100000 in
/-- isSameField -/
theorem sp_O_isSameField (l : Launch) {h : zk_H} {o : Nat} {O : zo_O} (hO : zo_at h o O) {q : Nat} {P : zo_O} (hP : zo_at h q P) {j : Nat} (hj : j < 24) {K : Option Value → zk_H → Prop} (hK : K (some (.int (zk_b (zo_sf O P j)))) h) : zk_S l y_O_isSameField b_O_isSameField 3 (some .boolean) rm_O_isSameField [.ref (o + 1), .ref (q + 1), .int (nI j)] h K := by
  obtain ⟨ho, a0, a1, a2, a3, a4, a5, a6, a7⟩ := id hO
  obtain ⟨go, g0, g1, g2, g3, g4, g5, g6, g7⟩ := id hP
  refine zk_S_of R_O "isSameField" (by decide) rfl rfl [some (.ref (o + 1)), some (.ref (q + 1)), some (.int (nI j))] 0 rfl (Nat.le_of_ble_eq_true rfl) (fun p e s m ar below meth c D dA b base C => ?_)
  refine zr_aload_n C d_O_isSameField_0 (n := 1) rfl rfl ?_
  refine zr_get C f_O_21 d_O_isSameField_1 (n := 4) rfl ho rfl ?_
  refine zr_iload_n C d_O_isSameField_4 (n := 5) rfl rfl ?_
  refine zr_ialdN C d_O_isSameField_5 (n := 6) rfl a3 rfl (by omega) (by decide) ?_
  refine zr_aload_n C d_O_isSameField_6 (n := 7) rfl rfl ?_
  refine zr_get C f_O_21 d_O_isSameField_7 (n := 10) rfl go rfl ?_
  refine zr_iload_n C d_O_isSameField_10 (n := 11) rfl rfl ?_
  refine zr_ialdN C d_O_isSameField_11 (n := 12) rfl g3 rfl (by omega) (by decide) ?_
  refine zr_icmp_eq C d_O_isSameField_12 (n := 15) rfl (t := 17) (by decide) (fun c1 => ?_) (fun c1 => ?_)
  · refine zr_aload_n C d_O_isSameField_17 (n := 18) rfl rfl ?_
    refine zr_get C f_O_21 d_O_isSameField_18 (n := 21) rfl ho rfl ?_
    refine zr_iload_n C d_O_isSameField_21 (n := 22) rfl rfl ?_
    refine zr_ialdN C d_O_isSameField_22 (n := 23) rfl a3 rfl (by omega) (by decide) ?_
    refine zr_iconst C d_O_isSameField_23 (n := 24) rfl (v := -1) (by decide) ?_
    refine zr_icmp_ne C d_O_isSameField_24 (n := 27) rfl (t := 29) (by decide) (fun c2 => ?_) (fun c2 => ?_)
    · refine zr_aload_n C d_O_isSameField_29 (n := 30) rfl rfl ?_
      refine zr_get C f_O_24 d_O_isSameField_30 (n := 33) rfl ho rfl ?_
      refine zr_iload_n C d_O_isSameField_33 (n := 34) rfl rfl ?_
      refine zr_ialdN C d_O_isSameField_34 (n := 35) rfl a4 rfl (by omega) (by decide) ?_
      refine zr_aload_n C d_O_isSameField_35 (n := 36) rfl rfl ?_
      refine zr_get C f_O_24 d_O_isSameField_36 (n := 39) rfl go rfl ?_
      refine zr_iload_n C d_O_isSameField_39 (n := 40) rfl rfl ?_
      refine zr_ialdN C d_O_isSameField_40 (n := 41) rfl g4 rfl (by omega) (by decide) ?_
      refine zr_icmp_ne C d_O_isSameField_41 (n := 44) rfl (t := 63) (by decide) (fun c3 => ?_) (fun c3 => ?_)
      · refine zr_iconst C d_O_isSameField_63 (n := 64) rfl (v := nI 0) (by decide) ?_
        exact zr_zret C d_O_isSameField_64 (by first | (simp [zo_sf, zk_b, c1, c2, c3]; done) | simp_all [zo_sf, zk_b]) (by decide) hK (Nat.zero_le _) (Nat.zero_le _)
      · refine zr_aload_n C d_O_isSameField_44 (n := 45) rfl rfl ?_
        refine zr_get C f_O_27 d_O_isSameField_45 (n := 48) rfl ho rfl ?_
        refine zr_iload_n C d_O_isSameField_48 (n := 49) rfl rfl ?_
        refine zr_ialdN C d_O_isSameField_49 (n := 50) rfl a5 rfl (by omega) (by decide) ?_
        refine zr_aload_n C d_O_isSameField_50 (n := 51) rfl rfl ?_
        refine zr_get C f_O_27 d_O_isSameField_51 (n := 54) rfl go rfl ?_
        refine zr_iload_n C d_O_isSameField_54 (n := 55) rfl rfl ?_
        refine zr_ialdN C d_O_isSameField_55 (n := 56) rfl g5 rfl (by omega) (by decide) ?_
        refine zr_icmp_ne C d_O_isSameField_56 (n := 59) rfl (t := 63) (by decide) (fun c4 => ?_) (fun c4 => ?_)
        · refine zr_iconst C d_O_isSameField_63 (n := 64) rfl (v := nI 0) (by decide) ?_
          exact zr_zret C d_O_isSameField_64 (by first | (simp [zo_sf, zk_b, c1, c2, c3, c4]; done) | simp_all [zo_sf, zk_b]) (by decide) hK (Nat.zero_le _) (Nat.zero_le _)
        · refine zr_iconst C d_O_isSameField_59 (n := 60) rfl (v := nI 1) (by decide) ?_
          refine zr_goto C d_O_isSameField_60 (t := 64) (by decide) ?_
          exact zr_zret C d_O_isSameField_64 (by first | (simp [zo_sf, zk_b, c1, c2, c3, c4]; done) | simp_all [zo_sf, zk_b]) (by decide) hK (Nat.zero_le _) (Nat.zero_le _)
    · refine zr_iconst C d_O_isSameField_27 (n := 28) rfl (v := nI 1) (by decide) ?_
      exact zr_zret C d_O_isSameField_28 (by first | (simp [zo_sf, zk_b, c1, c2]; done) | simp_all [zo_sf, zk_b]) (by decide) hK (Nat.zero_le _) (Nat.zero_le _)
  · refine zr_iconst C d_O_isSameField_15 (n := 16) rfl (v := nI 0) (by decide) ?_
    exact zr_zret C d_O_isSameField_16 (by first | (simp [zo_sf, zk_b, c1]; done) | simp_all [zo_sf, zk_b]) (by decide) hK (Nat.zero_le _) (Nat.zero_le _)
abbrev rm_O_isSameMethod : Room := { frames := 0, cells := 0, slots := 0, locals := 0 }
set_option maxHeartbeats 4000000 in
set_option maxRecDepth 100000 in
/-- isSameMethod -/
theorem sp_O_isSameMethod (l : Launch) {h : zk_H} {o : Nat} {O : zo_O} (hO : zo_at h o O) {q : Nat} {P : zo_O} (hP : zo_at h q P) {j : Nat} (hj : j < 72) {K : Option Value → zk_H → Prop} (hK : K (some (.int (zk_b (zo_sm O P j)))) h) : zk_S l y_O_isSameMethod b_O_isSameMethod 3 (some .boolean) rm_O_isSameMethod [.ref (o + 1), .ref (q + 1), .int (nI j)] h K := by
  obtain ⟨ho, a0, a1, a2, a3, a4, a5, a6, a7⟩ := id hO
  obtain ⟨go, g0, g1, g2, g3, g4, g5, g6, g7⟩ := id hP
  refine zk_S_of R_O "isSameMethod" (by decide) rfl rfl [some (.ref (o + 1)), some (.ref (q + 1)), some (.int (nI j))] 0 rfl (Nat.le_of_ble_eq_true rfl) (fun p e s m ar below meth c D dA b base C => ?_)
  refine zr_aload_n C d_O_isSameMethod_0 (n := 1) rfl rfl ?_
  refine zr_get C f_O_30 d_O_isSameMethod_1 (n := 4) rfl ho rfl ?_
  refine zr_iload_n C d_O_isSameMethod_4 (n := 5) rfl rfl ?_
  refine zr_ialdN C d_O_isSameMethod_5 (n := 6) rfl a6 rfl (by omega) (by decide) ?_
  refine zr_aload_n C d_O_isSameMethod_6 (n := 7) rfl rfl ?_
  refine zr_get C f_O_30 d_O_isSameMethod_7 (n := 10) rfl go rfl ?_
  refine zr_iload_n C d_O_isSameMethod_10 (n := 11) rfl rfl ?_
  refine zr_ialdN C d_O_isSameMethod_11 (n := 12) rfl g6 rfl (by omega) (by decide) ?_
  refine zr_icmp_eq C d_O_isSameMethod_12 (n := 15) rfl (t := 17) (by decide) (fun c1 => ?_) (fun c1 => ?_)
  · refine zr_aload_n C d_O_isSameMethod_17 (n := 18) rfl rfl ?_
    refine zr_get C f_O_30 d_O_isSameMethod_18 (n := 21) rfl ho rfl ?_
    refine zr_iload_n C d_O_isSameMethod_21 (n := 22) rfl rfl ?_
    refine zr_ialdN C d_O_isSameMethod_22 (n := 23) rfl a6 rfl (by omega) (by decide) ?_
    refine zr_iconst C d_O_isSameMethod_23 (n := 24) rfl (v := -1) (by decide) ?_
    refine zr_icmp_eq C d_O_isSameMethod_24 (n := 27) rfl (t := 42) (by decide) (fun c2 => ?_) (fun c2 => ?_)
    · refine zr_iconst C d_O_isSameMethod_42 (n := 43) rfl (v := nI 1) (by decide) ?_
      refine zr_goto C d_O_isSameMethod_43 (t := 47) (by decide) ?_
      exact zr_zret C d_O_isSameMethod_47 (by first | (simp [zo_sm, zk_b, c1, c2]; done) | simp_all [zo_sm, zk_b]) (by decide) hK (Nat.zero_le _) (Nat.zero_le _)
    · refine zr_aload_n C d_O_isSameMethod_27 (n := 28) rfl rfl ?_
      refine zr_get C f_O_33 d_O_isSameMethod_28 (n := 31) rfl ho rfl ?_
      refine zr_iload_n C d_O_isSameMethod_31 (n := 32) rfl rfl ?_
      refine zr_ialdN C d_O_isSameMethod_32 (n := 33) rfl a7 rfl (by omega) (by decide) ?_
      refine zr_aload_n C d_O_isSameMethod_33 (n := 34) rfl rfl ?_
      refine zr_get C f_O_33 d_O_isSameMethod_34 (n := 37) rfl go rfl ?_
      refine zr_iload_n C d_O_isSameMethod_37 (n := 38) rfl rfl ?_
      refine zr_ialdN C d_O_isSameMethod_38 (n := 39) rfl g7 rfl (by omega) (by decide) ?_
      refine zr_icmp_ne C d_O_isSameMethod_39 (n := 42) rfl (t := 46) (by decide) (fun c3 => ?_) (fun c3 => ?_)
      · refine zr_iconst C d_O_isSameMethod_46 (n := 47) rfl (v := nI 0) (by decide) ?_
        exact zr_zret C d_O_isSameMethod_47 (by first | (simp [zo_sm, zk_b, c1, c2, c3]; done) | simp_all [zo_sm, zk_b]) (by decide) hK (Nat.zero_le _) (Nat.zero_le _)
      · refine zr_iconst C d_O_isSameMethod_42 (n := 43) rfl (v := nI 1) (by decide) ?_
        refine zr_goto C d_O_isSameMethod_43 (t := 47) (by decide) ?_
        exact zr_zret C d_O_isSameMethod_47 (by first | (simp [zo_sm, zk_b, c1, c2, c3]; done) | simp_all [zo_sm, zk_b]) (by decide) hK (Nat.zero_le _) (Nat.zero_le _)
  · refine zr_iconst C d_O_isSameMethod_15 (n := 16) rfl (v := nI 0) (by decide) ?_
    exact zr_zret C d_O_isSameMethod_16 (by first | (simp [zo_sm, zk_b, c1]; done) | simp_all [zo_sm, zk_b]) (by decide) hK (Nat.zero_le _) (Nat.zero_le _)
end
section
def zo_cnL (O : zo_O) (t : Nat) (x : Int32) : Nat → Nat → Bool
  | 0, _ => true
  | n + 1, i => if zk_bit x i = true ∧ ¬ (i < t ∧ zo_hf O i (nI 1) = true) then false else zo_cnL O t x n (i + 1)
def zo_cn (O : zo_O) (t sp : Nat) (x : Int32) : Bool := if ¬ sp = 6 ∧ ¬ (sp < t ∧ zo_th O sp = true ∧ zo_hf O sp (nI 1) = false) then false else zo_cnL O t x 6 0
def zo_nmL (O : zo_O) (t : Nat) : Nat → Nat → Bool
  | 0, _ => false
  | n + 1, i => if zo_th O i = true ∧ (O 1 i = nI t ∨ zk_bit (O 2 i) t = true) then true else zo_nmL O t n (i + 1)
def zo_st1 (O : zo_O) (n : Nat) (x : Int32) : Int32 := if zk_bit x n = true then (if O 1 n = nI 6 then x ||| O 2 n else (x ||| O 2 n) ||| (nI 1 <<< (O 1 n &&& 31))) else x
def zo_stL (O : zo_O) : Nat → Int32 → Int32
  | 0, x => x
  | n + 1, x => zo_stL O n (zo_st1 O n x)
def zo_st (O : zo_O) (t : Nat) : Int32 := zo_stL O (t + 1) (nI 1 <<< (nI t &&& 31))
theorem zk_lt {a b : Nat} (ha : a < 2147483648) (hb : b < 2147483648) (h : nI a < nI b) : a < b := (nI_ltI ha hb).mp h
theorem zk_nlt {a b : Nat} (ha : a < 2147483648) (hb : b < 2147483648) (h : ¬ nI a < nI b) : b ≤ a := Nat.not_lt.mp (fun q => h ((nI_ltI ha hb).mpr q))
theorem zk_le {a b : Nat} (ha : a < 2147483648) (hb : b < 2147483648) (h : nI a ≤ nI b) : a ≤ b := (nI_leI ha hb).mp h
theorem zk_nle {a b : Nat} (ha : a < 2147483648) (hb : b < 2147483648) (h : ¬ nI a ≤ nI b) : b < a := Nat.not_le.mp (fun q => h ((nI_leI ha hb).mpr q))
theorem zk_eq {a b : Nat} (ha : a < 2147483648) (hb : b < 2147483648) (h : nI a = nI b) : a = b := (nI_eq ha hb).mp h
theorem zk_ne {a b : Nat} (ha : a < 2147483648) (hb : b < 2147483648) (h : ¬ nI a = nI b) : ¬ a = b := fun q => h (by rw [q])
theorem zk_ge0 {n : Nat} (hn : n < 2147483648) (h : nI n < 0) : False := nI_pos hn h
theorem zo_cnL_go {O : zo_O} {t : Nat} {x : Int32} {n i : Nat} (h : zk_bit x i = true → i < t ∧ zo_hf O i (nI 1) = true) : zo_cnL O t x (n + 1) i = zo_cnL O t x n (i + 1) := by
  rw [zo_cnL, if_neg (fun q => q.2 (h q.1))]
theorem zo_cnL_no {O : zo_O} {t : Nat} {x : Int32} {n i : Nat} (h1 : zk_bit x i = true) (h2 : ¬ (i < t ∧ zo_hf O i (nI 1) = true)) : zo_cnL O t x (n + 1) i = false := by
  rw [zo_cnL, if_pos ⟨h1, h2⟩]
theorem zo_nmL_go {O : zo_O} {t n i : Nat} (h : ¬ (zo_th O i = true ∧ (O 1 i = nI t ∨ zk_bit (O 2 i) t = true))) : zo_nmL O t (n + 1) i = zo_nmL O t n (i + 1) := by
  rw [zo_nmL, if_neg h]
theorem zo_nmL_yes {O : zo_O} {t n i : Nat} (h : zo_th O i = true ∧ (O 1 i = nI t ∨ zk_bit (O 2 i) t = true)) : zo_nmL O t (n + 1) i = true := by
  rw [zo_nmL, if_pos h]
abbrev rm_O_canName : Room := { frames := 2, cells := 0, slots := 0, locals := 43 }
set_option maxHeartbeats 4000000 in
set_option maxRecDepth 100000 in
/-- canName -/
theorem sp_O_canName (l : Launch) {h : zk_H} {o : Nat} {O : zo_O} (hO : zo_at h o O) {t sp : Nat} (ht : t < 6) (hsp : sp ≤ 6) {x : Int32} {K : Option Value → zk_H → Prop} (hK : K (some (.int (zk_b (zo_cn O t sp x)))) h) : zk_S l y_O_canName b_O_canName 5 (some .boolean) rm_O_canName [.ref (o + 1), .int (nI t), .int (nI sp), .int x] h K := by
  obtain ⟨ho, a0, a1, a2, a3, a4, a5, a6, a7⟩ := id hO
  refine zk_S_of R_O "canName" (by decide) rfl rfl [some (.ref (o + 1)), some (.int (nI t)), some (.int (nI sp)), some (.int x), none] 1 rfl (Nat.le_of_ble_eq_true rfl) (fun p e s m ar below meth c D dA b base C => ?_)
  have L : ∀ (n j : Nat), n + j = 6 → K (some (.int (zk_b (zo_cnL O t x n j)))) h → zk_V p l e rm_O_canName s m ar below meth c 5 D dA b base (MQ below (zk_Q K D dA b base) ar s rm_O_canName.cells rm_O_canName.slots (fun q : Nat => base ≤ q)) 0 0 32 [some (.ref (o + 1)), some (.int (nI t)), some (.int (nI sp)), some (.int x), some (.int (nI j))] [] h := by
    intro n
    induction n with
    | zero =>
      intro j hj hK
      refine zr_iload C d_O_canName_32 (n := 34) rfl rfl ?_
      refine zr_bipush C d_O_canName_34 (n := 36) rfl (v := nI 6) (by decide) ?_
      refine zr_icmp_ge C d_O_canName_36 (n := 39) rfl (t := 71) (by decide) (fun c1 => ?_) (fun c1 => ?_)
      · refine zr_iconst C d_O_canName_71 (n := 72) rfl (v := nI 1) (by decide) ?_
        exact zr_zret C d_O_canName_72 (by first | (simp [zo_cnL, zk_b, c1]; done) | simp_all [zo_cnL, zk_b]) (by decide) hK (Nat.zero_le _) (Nat.zero_le _)
      · exact absurd (zk_nle (by omega) (by omega) c1) (by omega)
    | succ n ih =>
      intro j hj hK
      refine zr_iload C d_O_canName_32 (n := 34) rfl rfl ?_
      refine zr_bipush C d_O_canName_34 (n := 36) rfl (v := nI 6) (by decide) ?_
      refine zr_icmp_ge C d_O_canName_36 (n := 39) rfl (t := 71) (by decide) (fun c1 => ?_) (fun c1 => ?_)
      · exact absurd (zk_le (by omega) (by omega) c1) (by omega)
      · replace c1 := zk_nle (by omega) (by omega) c1
        refine zr_iload_n C d_O_canName_39 (n := 40) rfl rfl ?_
        refine zr_iload C d_O_canName_40 (n := 42) rfl rfl ?_
        refine zr_callSN2 C k_O_47 d_O_canName_42 (nx := 45) rfl ⟨by decide, by decide⟩ (by decide) ⟨by decide, by decide⟩ (sp_A_holds l ?_)
        refine zr_if_eq C d_O_canName_45 (n := 48) rfl (t := 65) (by decide) (fun c2 => ?_) (fun c2 => ?_)
        · replace c2 := zk_bz c2
          refine zr_iinc C d_O_canName_65 (n := 68) rfl rfl (w := 1) (by decide) (nI_1 j) (by decide) rfl ?_
          refine zr_goto C d_O_canName_68 (t := 32) (by decide) ?_
          exact ih (j + 1) (by omega) (by rw [zo_cnL_go (by simp [c1, c2])] at hK; exact hK)
        · replace c2 := zk_bn c2
          refine zr_iload C d_O_canName_48 (n := 50) rfl rfl ?_
          refine zr_iload_n C d_O_canName_50 (n := 51) rfl rfl ?_
          refine zr_icmp_ge C d_O_canName_51 (n := 54) rfl (t := 63) (by decide) (fun c3 => ?_) (fun c3 => ?_)
          · replace c3 := zk_le (by omega) (by omega) c3
            refine zr_iconst C d_O_canName_63 (n := 64) rfl (v := nI 0) (by decide) ?_
            exact zr_zret C d_O_canName_64 (by rw [zo_cnL_no (by simp [c1, c2, c3]) (by first | (intro q; omega) | simp_all)]; rfl) (by decide) hK (Nat.zero_le _) (Nat.zero_le _)
          · replace c3 := zk_nle (by omega) (by omega) c3
            refine zr_aload_n C d_O_canName_54 (n := 55) rfl rfl ?_
            refine zr_iload C d_O_canName_55 (n := 57) rfl rfl ?_
            refine zr_callV1 C k_O_44 d_O_canName_57 (nx := 60) rfl ho rfl ⟨by decide, by decide⟩ (by decide) ⟨by decide, by decide⟩ (sp_O_isInterface l hO (by omega) ?_)
            refine zr_if_ne C d_O_canName_60 (n := 63) rfl (t := 65) (by decide) (fun c4 => ?_) (fun c4 => ?_)
            · replace c4 := zk_bn c4
              refine zr_iinc C d_O_canName_65 (n := 68) rfl rfl (w := 1) (by decide) (nI_1 j) (by decide) rfl ?_
              refine zr_goto C d_O_canName_68 (t := 32) (by decide) ?_
              exact ih (j + 1) (by omega) (by rw [zo_cnL_go (by simp [c1, c2, c3, c4])] at hK; exact hK)
            · replace c4 := zk_bz c4
              refine zr_iconst C d_O_canName_63 (n := 64) rfl (v := nI 0) (by decide) ?_
              exact zr_zret C d_O_canName_64 (by rw [zo_cnL_no (by simp [c1, c2, c3, c4]) (by first | (intro q; omega) | simp_all)]; rfl) (by decide) hK (Nat.zero_le _) (Nat.zero_le _)
  refine zr_iload_n C d_O_canName_0 (n := 1) rfl rfl ?_
  refine zr_bipush C d_O_canName_1 (n := 3) rfl (v := nI 6) (by decide) ?_
  refine zr_icmp_eq C d_O_canName_3 (n := 6) rfl (t := 29) (by decide) (fun c1 => ?_) (fun c1 => ?_)
  · replace c1 := zk_eq (by omega) (by omega) c1
    refine zr_iconst C d_O_canName_29 (n := 30) rfl (v := nI 0) (by decide) ?_
    refine zr_istore C d_O_canName_30 (n := 32) rfl (by decide) rfl ?_
    exact L 6 0 rfl (by rw [zo_cn, if_neg (by simp_all; try omega)] at hK; exact hK)
  · replace c1 := zk_ne (by omega) (by omega) c1
    refine zr_iload_n C d_O_canName_6 (n := 7) rfl rfl ?_
    refine zr_iload_n C d_O_canName_7 (n := 8) rfl rfl ?_
    refine zr_icmp_ge C d_O_canName_8 (n := 11) rfl (t := 27) (by decide) (fun c2 => ?_) (fun c2 => ?_)
    · replace c2 := zk_le (by omega) (by omega) c2
      refine zr_iconst C d_O_canName_27 (n := 28) rfl (v := nI 0) (by decide) ?_
      exact zr_zret C d_O_canName_28 (by rw [zo_cn, if_pos (by simp_all; try omega)]; rfl) (by decide) hK (Nat.zero_le _) (Nat.zero_le _)
    · replace c2 := zk_nle (by omega) (by omega) c2
      refine zr_aload_n C d_O_canName_11 (n := 12) rfl rfl ?_
      refine zr_iload_n C d_O_canName_12 (n := 13) rfl rfl ?_
      refine zr_callV1 C k_O_40 d_O_canName_13 (nx := 16) rfl ho rfl ⟨by decide, by decide⟩ (by decide) ⟨by decide, by decide⟩ (sp_O_isThere l hO (by omega) ?_)
      refine zr_if_eq C d_O_canName_16 (n := 19) rfl (t := 27) (by decide) (fun c3 => ?_) (fun c3 => ?_)
      · replace c3 := zk_bz c3
        refine zr_iconst C d_O_canName_27 (n := 28) rfl (v := nI 0) (by decide) ?_
        exact zr_zret C d_O_canName_28 (by rw [zo_cn, if_pos (by simp_all; try omega)]; rfl) (by decide) hK (Nat.zero_le _) (Nat.zero_le _)
      · replace c3 := zk_bn c3
        refine zr_aload_n C d_O_canName_19 (n := 20) rfl rfl ?_
        refine zr_iload_n C d_O_canName_20 (n := 21) rfl rfl ?_
        refine zr_callV1 C k_O_44 d_O_canName_21 (nx := 24) rfl ho rfl ⟨by decide, by decide⟩ (by decide) ⟨by decide, by decide⟩ (sp_O_isInterface l hO (by omega) ?_)
        refine zr_if_eq C d_O_canName_24 (n := 27) rfl (t := 29) (by decide) (fun c4 => ?_) (fun c4 => ?_)
        · replace c4 := zk_bz c4
          refine zr_iconst C d_O_canName_29 (n := 30) rfl (v := nI 0) (by decide) ?_
          refine zr_istore C d_O_canName_30 (n := 32) rfl (by decide) rfl ?_
          exact L 6 0 rfl (by rw [zo_cn, if_neg (by simp_all; try omega)] at hK; exact hK)
        · replace c4 := zk_bn c4
          refine zr_iconst C d_O_canName_27 (n := 28) rfl (v := nI 0) (by decide) ?_
          exact zr_zret C d_O_canName_28 (by rw [zo_cn, if_pos (by simp_all; try omega)]; rfl) (by decide) hK (Nat.zero_le _) (Nat.zero_le _)
abbrev rm_O_isNamed : Room := { frames := 1, cells := 0, slots := 0, locals := 21 }
set_option maxHeartbeats 4000000 in
set_option maxRecDepth 100000 in
/-- isNamed -/
theorem sp_O_isNamed (l : Launch) {h : zk_H} {o : Nat} {O : zo_O} (hO : zo_at h o O) {t : Nat} (ht : t < 6) {K : Option Value → zk_H → Prop} (hK : K (some (.int (zk_b (zo_nmL O t 6 0)))) h) : zk_S l y_O_isNamed b_O_isNamed 3 (some .boolean) rm_O_isNamed [.ref (o + 1), .int (nI t)] h K := by
  obtain ⟨ho, a0, a1, a2, a3, a4, a5, a6, a7⟩ := id hO
  refine zk_S_of R_O "isNamed" (by decide) rfl rfl [some (.ref (o + 1)), some (.int (nI t)), none] 1 rfl (Nat.le_of_ble_eq_true rfl) (fun p e s m ar below meth c D dA b base C => ?_)
  have L : ∀ (n j : Nat), n + j = 6 → K (some (.int (zk_b (zo_nmL O t n j)))) h → zk_V p l e rm_O_isNamed s m ar below meth c 3 D dA b base (MQ below (zk_Q K D dA b base) ar s rm_O_isNamed.cells rm_O_isNamed.slots (fun q : Nat => base ≤ q)) 0 0 2 [some (.ref (o + 1)), some (.int (nI t)), some (.int (nI j))] [] h := by
    intro n
    induction n with
    | zero =>
      intro j hj hK
      refine zr_iload_n C d_O_isNamed_2 (n := 3) rfl rfl ?_
      refine zr_bipush C d_O_isNamed_3 (n := 5) rfl (v := nI 6) (by decide) ?_
      refine zr_icmp_ge C d_O_isNamed_5 (n := 8) rfl (t := 47) (by decide) (fun c1 => ?_) (fun c1 => ?_)
      · refine zr_iconst C d_O_isNamed_47 (n := 48) rfl (v := nI 0) (by decide) ?_
        exact zr_zret C d_O_isNamed_48 rfl (by decide) hK (Nat.zero_le _) (Nat.zero_le _)
      · exact absurd (zk_nle (by omega) (by omega) c1) (by omega)
    | succ n ih =>
      intro j hj hK
      refine zr_iload_n C d_O_isNamed_2 (n := 3) rfl rfl ?_
      refine zr_bipush C d_O_isNamed_3 (n := 5) rfl (v := nI 6) (by decide) ?_
      refine zr_icmp_ge C d_O_isNamed_5 (n := 8) rfl (t := 47) (by decide) (fun c1 => ?_) (fun c1 => ?_)
      · exact absurd (zk_le (by omega) (by omega) c1) (by omega)
      · replace c1 := zk_nle (by omega) (by omega) c1
        refine zr_aload_n C d_O_isNamed_8 (n := 9) rfl rfl ?_
        refine zr_iload_n C d_O_isNamed_9 (n := 10) rfl rfl ?_
        refine zr_callV1 C k_O_40 d_O_isNamed_10 (nx := 13) rfl ho rfl ⟨by decide, by decide⟩ (by decide) ⟨by decide, by decide⟩ (sp_O_isThere l hO (by omega) ?_)
        refine zr_if_eq C d_O_isNamed_13 (n := 16) rfl (t := 41) (by decide) (fun c2 => ?_) (fun c2 => ?_)
        · replace c2 := zk_bz c2
          refine zr_iinc C d_O_isNamed_41 (n := 44) rfl rfl (w := 1) (by decide) (nI_1 j) (by decide) rfl ?_
          refine zr_goto C d_O_isNamed_44 (t := 2) (by decide) ?_
          exact ih (j + 1) (by omega) (by rw [zo_nmL_go (by simp_all)] at hK; exact hK)
        · replace c2 := zk_bn c2
          refine zr_aload_n C d_O_isNamed_16 (n := 17) rfl rfl ?_
          refine zr_get C f_O_15 d_O_isNamed_17 (n := 20) rfl ho rfl ?_
          refine zr_iload_n C d_O_isNamed_20 (n := 21) rfl rfl ?_
          refine zr_ialdN C d_O_isNamed_21 (n := 22) rfl a1 rfl (by omega) (by decide) ?_
          refine zr_iload_n C d_O_isNamed_22 (n := 23) rfl rfl ?_
          refine zr_icmp_eq C d_O_isNamed_23 (n := 26) rfl (t := 39) (by decide) (fun c3 => ?_) (fun c3 => ?_)
          · refine zr_iconst C d_O_isNamed_39 (n := 40) rfl (v := nI 1) (by decide) ?_
            exact zr_zret C d_O_isNamed_40 (by rw [zo_nmL_yes (by simp_all)]; rfl) (by decide) hK (Nat.zero_le _) (Nat.zero_le _)
          · refine zr_aload_n C d_O_isNamed_26 (n := 27) rfl rfl ?_
            refine zr_get C f_O_18 d_O_isNamed_27 (n := 30) rfl ho rfl ?_
            refine zr_iload_n C d_O_isNamed_30 (n := 31) rfl rfl ?_
            refine zr_ialdN C d_O_isNamed_31 (n := 32) rfl a2 rfl (by omega) (by decide) ?_
            refine zr_iload_n C d_O_isNamed_32 (n := 33) rfl rfl ?_
            refine zr_callSN2 C k_O_47 d_O_isNamed_33 (nx := 36) rfl ⟨by decide, by decide⟩ (by decide) ⟨by decide, by decide⟩ (sp_A_holds l ?_)
            refine zr_if_eq C d_O_isNamed_36 (n := 39) rfl (t := 41) (by decide) (fun c4 => ?_) (fun c4 => ?_)
            · replace c4 := zk_bz c4
              refine zr_iinc C d_O_isNamed_41 (n := 44) rfl rfl (w := 1) (by decide) (nI_1 j) (by decide) rfl ?_
              refine zr_goto C d_O_isNamed_44 (t := 2) (by decide) ?_
              exact ih (j + 1) (by omega) (by rw [zo_nmL_go (by simp_all)] at hK; exact hK)
            · replace c4 := zk_bn c4
              refine zr_iconst C d_O_isNamed_39 (n := 40) rfl (v := nI 1) (by decide) ?_
              exact zr_zret C d_O_isNamed_40 (by rw [zo_nmL_yes (by simp_all)]; rfl) (by decide) hK (Nat.zero_le _) (Nat.zero_le _)
  refine zr_iconst C d_O_isNamed_0 (n := 1) rfl (v := nI 0) (by decide) ?_
  refine zr_istore_n C d_O_isNamed_1 (n := 2) rfl (by decide) rfl ?_
  exact L 6 0 rfl hK
theorem pk_sn (n : Nat) : nI (n + 1) + (-1) = nI n := pk_m1 n
abbrev rm_O_supertypesOf : Room := { frames := 1, cells := 0, slots := 0, locals := 21 }
set_option maxHeartbeats 4000000 in
set_option maxRecDepth 100000 in
/-- supertypesOf -/
theorem sp_O_supertypesOf (l : Launch) {h : zk_H} {o : Nat} {O : zo_O} (hO : zo_at h o O) {t : Nat} (ht : t < 6) {K : Option Value → zk_H → Prop} (hK : K (some (.int (zo_st O t))) h) : zk_S l y_O_supertypesOf b_O_supertypesOf 4 (some .int) rm_O_supertypesOf [.ref (o + 1), .int (nI t)] h K := by
  obtain ⟨ho, a0, a1, a2, a3, a4, a5, a6, a7⟩ := id hO
  refine zk_S_of R_O "supertypesOf" (by decide) rfl rfl [some (.ref (o + 1)), some (.int (nI t)), none, none] 2 rfl (Nat.le_of_ble_eq_true rfl) (fun p e s m ar below meth c D dA b base C => ?_)
  have L : ∀ (n : Nat) (y z : Int32), z = nI n + (-1) → n ≤ 6 → K (some (.int (zo_stL O n y))) h → zk_V p l e rm_O_supertypesOf s m ar below meth c 4 D dA b base (MQ below (zk_Q K D dA b base) ar s rm_O_supertypesOf.cells rm_O_supertypesOf.slots (fun q : Nat => base ≤ q)) 0 0 6 [some (.ref (o + 1)), some (.int (nI t)), some (.int y), some (.int z)] [] h := by
    intro n
    induction n with
    | zero =>
      intro y z hz hn hK
      subst hz
      refine zr_iload_n C d_O_supertypesOf_6 (n := 7) rfl rfl ?_
      refine zr_if_lt C d_O_supertypesOf_7 (n := 10) rfl (t := 55) (by decide) (fun c1 => ?_) (fun c1 => ?_)
      · refine zr_iload_n C d_O_supertypesOf_55 (n := 56) rfl rfl ?_
        exact zr_iret C d_O_supertypesOf_56 rfl hK (Nat.zero_le _) (Nat.zero_le _)
      · exact absurd (by decide) c1
    | succ n ih =>
      intro y z hz hn hK
      rw [pk_sn] at hz
      subst hz
      refine zr_iload_n C d_O_supertypesOf_6 (n := 7) rfl rfl ?_
      refine zr_if_lt C d_O_supertypesOf_7 (n := 10) rfl (t := 55) (by decide) (fun c1 => ?_) (fun c1 => ?_)
      · exact absurd c1 (nI_pos (by omega))
      · refine zr_iload_n C d_O_supertypesOf_10 (n := 11) rfl rfl ?_
        refine zr_iload_n C d_O_supertypesOf_11 (n := 12) rfl rfl ?_
        refine zr_callSN2 C k_O_47 d_O_supertypesOf_12 (nx := 15) rfl ⟨by decide, by decide⟩ (by decide) ⟨by decide, by decide⟩ (sp_A_holds l ?_)
        refine zr_if_eq C d_O_supertypesOf_15 (n := 18) rfl (t := 49) (by decide) (fun c2 => ?_) (fun c2 => ?_)
        · replace c2 := zk_bz c2
          refine zr_iinc C d_O_supertypesOf_49 (n := 52) rfl rfl (w := -1) (by decide) rfl (by decide) rfl ?_
          refine zr_goto C d_O_supertypesOf_52 (t := 6) (by decide) ?_
          refine ih _ _ rfl (by omega) ?_
          simpa [zo_stL, zo_st1, c1, c2] using hK
        · replace c2 := zk_bn c2
          refine zr_iload_n C d_O_supertypesOf_18 (n := 19) rfl rfl ?_
          refine zr_aload_n C d_O_supertypesOf_19 (n := 20) rfl rfl ?_
          refine zr_get C f_O_18 d_O_supertypesOf_20 (n := 23) rfl ho rfl ?_
          refine zr_iload_n C d_O_supertypesOf_23 (n := 24) rfl rfl ?_
          refine zr_ialdN C d_O_supertypesOf_24 (n := 25) rfl a2 rfl (by omega) (by decide) ?_
          refine zr_ior C d_O_supertypesOf_25 (n := 26) rfl ?_
          refine zr_istore_n C d_O_supertypesOf_26 (n := 27) rfl (by decide) rfl ?_
          refine zr_aload_n C d_O_supertypesOf_27 (n := 28) rfl rfl ?_
          refine zr_get C f_O_15 d_O_supertypesOf_28 (n := 31) rfl ho rfl ?_
          refine zr_iload_n C d_O_supertypesOf_31 (n := 32) rfl rfl ?_
          refine zr_ialdN C d_O_supertypesOf_32 (n := 33) rfl a1 rfl (by omega) (by decide) ?_
          refine zr_bipush C d_O_supertypesOf_33 (n := 35) rfl (v := nI 6) (by decide) ?_
          refine zr_icmp_eq C d_O_supertypesOf_35 (n := 38) rfl (t := 49) (by decide) (fun c3 => ?_) (fun c3 => ?_)
          · refine zr_iinc C d_O_supertypesOf_49 (n := 52) rfl rfl (w := -1) (by decide) rfl (by decide) rfl ?_
            refine zr_goto C d_O_supertypesOf_52 (t := 6) (by decide) ?_
            refine ih _ _ rfl (by omega) ?_
            simpa [zo_stL, zo_st1, c1, c2, c3] using hK
          · refine zr_iload_n C d_O_supertypesOf_38 (n := 39) rfl rfl ?_
            refine zr_iconst C d_O_supertypesOf_39 (n := 40) rfl (v := nI 1) (by decide) ?_
            refine zr_aload_n C d_O_supertypesOf_40 (n := 41) rfl rfl ?_
            refine zr_get C f_O_15 d_O_supertypesOf_41 (n := 44) rfl ho rfl ?_
            refine zr_iload_n C d_O_supertypesOf_44 (n := 45) rfl rfl ?_
            refine zr_ialdN C d_O_supertypesOf_45 (n := 46) rfl a1 rfl (by omega) (by decide) ?_
            refine zr_ishl C d_O_supertypesOf_46 (n := 47) rfl ?_
            refine zr_ior C d_O_supertypesOf_47 (n := 48) rfl ?_
            refine zr_istore_n C d_O_supertypesOf_48 (n := 49) rfl (by decide) rfl ?_
            refine zr_iinc C d_O_supertypesOf_49 (n := 52) rfl rfl (w := -1) (by decide) rfl (by decide) rfl ?_
            refine zr_goto C d_O_supertypesOf_52 (t := 6) (by decide) ?_
            refine ih _ _ rfl (by omega) ?_
            simpa [zo_stL, zo_st1, c1, c2, c3] using hK
  refine zr_iconst C d_O_supertypesOf_0 (n := 1) rfl (v := nI 1) (by decide) ?_
  refine zr_iload_n C d_O_supertypesOf_1 (n := 2) rfl rfl ?_
  refine zr_ishl C d_O_supertypesOf_2 (n := 3) rfl ?_
  refine zr_istore_n C d_O_supertypesOf_3 (n := 4) rfl (by decide) rfl ?_
  refine zr_iload_n C d_O_supertypesOf_4 (n := 5) rfl rfl ?_
  refine zr_istore_n C d_O_supertypesOf_5 (n := 6) rfl (by decide) rfl ?_
  exact L (t + 1) _ _ (pk_sn t).symm (by omega) hK
end
section
def zo_wf (O : zo_O) : Prop := ∀ t, t < 6 → O 1 t = nI 6 ∨ ∃ s, s < t ∧ O 1 t = nI s
def zo_ffL (f : Nat → Int32) (x z : Int32) : Nat → Nat → Int32
  | 0, _ => z
  | n + 1, i => if zk_bit x i = true ∧ ¬ f i = -1 then f i else zo_ffL f x z n (i + 1)
def zo_ff (O : zo_O) (nm : Nat) (kd : Int32) : Nat → Nat → Int32
  | 0, _ => -1
  | d + 1, t => if ¬ O 3 (t * 4 + nm) = -1 ∧ (kd = -1 ∨ O 4 (t * 4 + nm) = kd) then nI (t * 4 + nm) else zo_ffL (fun i => zo_ff O nm kd d i) (O 2 t) (if O 1 t = nI 6 then -1 else zo_ff O nm kd d (O 1 t).toNatClampNeg) t 0
theorem zo_ffL_go {f : Nat → Int32} {x z : Int32} {n i : Nat} (h : ¬ (zk_bit x i = true ∧ ¬ f i = -1)) : zo_ffL f x z (n + 1) i = zo_ffL f x z n (i + 1) := by rw [zo_ffL, if_neg h]
theorem zo_ffL_yes {f : Nat → Int32} {x z : Int32} {n i : Nat} (h : zk_bit x i = true ∧ ¬ f i = -1) : zo_ffL f x z (n + 1) i = f i := by rw [zo_ffL, if_pos h]
theorem zo_ff_own {O : zo_O} {nm : Nat} {kd : Int32} {d t : Nat} (h : ¬ O 3 (t * 4 + nm) = -1 ∧ (kd = -1 ∨ O 4 (t * 4 + nm) = kd)) : zo_ff O nm kd (d + 1) t = nI (t * 4 + nm) := by rw [zo_ff, if_pos h]
theorem zo_ff_up {O : zo_O} {nm : Nat} {kd : Int32} {d t : Nat} (h : ¬ (¬ O 3 (t * 4 + nm) = -1 ∧ (kd = -1 ∨ O 4 (t * 4 + nm) = kd))) : zo_ff O nm kd (d + 1) t = zo_ffL (fun i => zo_ff O nm kd d i) (O 2 t) (if O 1 t = nI 6 then -1 else zo_ff O nm kd d (O 1 t).toNatClampNeg) t 0 := by rw [zo_ff, if_neg h]
abbrev rm_O_findFieldFrom (d : Nat) : Room := { frames := d + 1, cells := 0, slots := 0, locals := 27 * d + 30 }
set_option maxHeartbeats 4000000 in
set_option maxRecDepth 100000 in
/-- findFieldFrom, by the levels that are left -/
theorem sp_O_findFieldFrom (l : Launch) {h : zk_H} {o : Nat} {O : zo_O} (hO : zo_at h o O) (hw : zo_wf O) {nm : Nat} (hnm : nm < 4) {kd : Int32} : ∀ (d : Nat) {t dp : Nat}, t < 6 → dp + d = 6 → ∀ {K : Option Value → zk_H → Prop}, K (some (.int (zo_ff O nm kd d t))) h → zk_S l y_O_findFieldFrom b_O_findFieldFrom 8 (some .int) (rm_O_findFieldFrom d) [.ref (o + 1), .int (nI t), .int (nI nm), .int kd, .int (nI dp)] h K := by
  obtain ⟨ho, a0, a1, a2, a3, a4, a5, a6, a7⟩ := id hO
  intro d
  induction d with
  | zero =>
    intro t dp ht hd K hK
    refine zk_S_of R_O "findFieldFrom" (by decide) rfl rfl [some (.ref (o + 1)), some (.int (nI t)), some (.int (nI nm)), some (.int kd), some (.int (nI dp)), none, none, none] 3 rfl (Nat.le_of_ble_eq_true rfl) (fun p e s m ar below meth c D dA b base C => ?_)
    refine zr_iload C d_O_findFieldFrom_0 (n := 2) rfl rfl ?_
    refine zr_bipush C d_O_findFieldFrom_2 (n := 4) rfl (v := nI 6) (by decide) ?_
    refine zr_icmp_lt C d_O_findFieldFrom_4 (n := 7) rfl (t := 9) (by decide) (fun c1 => ?_) (fun c1 => ?_)
    · exact absurd (zk_lt (by omega) (by omega) c1) (by omega)
    · refine zr_iconst C d_O_findFieldFrom_7 (n := 8) rfl (v := -1) (by decide) ?_
      exact zr_iret C d_O_findFieldFrom_8 rfl hK (Nat.zero_le _) (Nat.zero_le _)
  | succ d ih =>
    intro t dp ht hd K hK
    refine zk_S_of R_O "findFieldFrom" (by decide) rfl rfl [some (.ref (o + 1)), some (.int (nI t)), some (.int (nI nm)), some (.int kd), some (.int (nI dp)), none, none, none] 3 rfl (Nat.le_of_ble_eq_true rfl) (fun p e s m ar below meth c D dA b base C => ?_)
    have L : ∀ (n j : Nat), n + j = t → K (some (.int (zo_ffL (fun i => zo_ff O nm kd d i) (O 2 t) (if O 1 t = nI 6 then -1 else zo_ff O nm kd d (O 1 t).toNatClampNeg) n j))) h → zk_V p l e (rm_O_findFieldFrom (d + 1)) s m ar below meth c 8 D dA b base (MQ below (zk_Q K D dA b base) ar s (rm_O_findFieldFrom (d + 1)).cells (rm_O_findFieldFrom (d + 1)).slots (fun q : Nat => base ≤ q)) 0 0 49 [some (.ref (o + 1)), some (.int (nI t)), some (.int (nI nm)), some (.int kd), some (.int (nI dp)), some (.int (nI (t * 4 + nm))), some (.int (nI j)), none] [] h := by
      intro n
      induction n with
      | zero =>
        intro j hj hK
        rw [zo_ffL] at hK
        refine zr_iload C d_O_findFieldFrom_49 (n := 51) rfl rfl ?_
        refine zr_iload_n C d_O_findFieldFrom_51 (n := 52) rfl rfl ?_
        refine zr_icmp_ge C d_O_findFieldFrom_52 (n := 55) rfl (t := 98) (by decide) (fun c1 => ?_) (fun c1 => ?_)
        · refine zr_aload_n C d_O_findFieldFrom_98 (n := 99) rfl rfl ?_
          refine zr_get C f_O_15 d_O_findFieldFrom_99 (n := 102) rfl ho rfl ?_
          refine zr_iload_n C d_O_findFieldFrom_102 (n := 103) rfl rfl ?_
          refine zr_ialdN C d_O_findFieldFrom_103 (n := 104) rfl a1 rfl (by omega) (by decide) ?_
          refine zr_bipush C d_O_findFieldFrom_104 (n := 106) rfl (v := nI 6) (by decide) ?_
          refine zr_icmp_ne C d_O_findFieldFrom_106 (n := 109) rfl (t := 111) (by decide) (fun c2 => ?_) (fun c2 => ?_)
          · obtain ⟨s0, hs0, hs0e⟩ := (hw t ht).resolve_left c2
            refine zr_aload_n C d_O_findFieldFrom_111 (n := 112) rfl rfl ?_
            refine zr_aload_n C d_O_findFieldFrom_112 (n := 113) rfl rfl ?_
            refine zr_get C f_O_15 d_O_findFieldFrom_113 (n := 116) rfl ho rfl ?_
            refine zr_iload_n C d_O_findFieldFrom_116 (n := 117) rfl rfl ?_
            refine zr_ialdN C d_O_findFieldFrom_117 (n := 118) rfl a1 rfl (by omega) (by decide) ?_
            refine zr_toe (y := nI s0) hs0e ?_
            refine zr_iload_n C d_O_findFieldFrom_118 (n := 119) rfl rfl ?_
            refine zr_iload_n C d_O_findFieldFrom_119 (n := 120) rfl rfl ?_
            refine zr_iload C d_O_findFieldFrom_120 (n := 122) rfl rfl ?_
            refine zr_iconst C d_O_findFieldFrom_122 (n := 123) rfl (v := nI 1) (by decide) ?_
            refine zr_iadd C d_O_findFieldFrom_123 (n := 124) rfl ?_
            refine zr_toe (y := nI (dp + 1)) (nI_add dp 1) ?_
            refine zr_callV4 C k_O_60 d_O_findFieldFrom_124 (nx := 127) rfl ho rfl ⟨by dsimp only [rm_O_findFieldFrom]; omega, by dsimp only [rm_O_findFieldFrom]; omega⟩ (by decide) ⟨Nat.le_refl _, Nat.le_refl _⟩ (ih (t := s0) (dp := dp + 1) (by omega) (by omega) ?_)
            exact zr_iret C d_O_findFieldFrom_127 (by rw [if_neg c2, hs0e, nI_clamp (by omega)]) hK (Nat.zero_le _) (Nat.zero_le _)
          · refine zr_iconst C d_O_findFieldFrom_109 (n := 110) rfl (v := -1) (by decide) ?_
            exact zr_iret C d_O_findFieldFrom_110 (by rw [if_pos c2]) hK (Nat.zero_le _) (Nat.zero_le _)
        · exact absurd (zk_nle (by omega) (by omega) c1) (by omega)
      | succ n ih2 =>
        intro j hj hK
        refine zr_iload C d_O_findFieldFrom_49 (n := 51) rfl rfl ?_
        refine zr_iload_n C d_O_findFieldFrom_51 (n := 52) rfl rfl ?_
        refine zr_icmp_ge C d_O_findFieldFrom_52 (n := 55) rfl (t := 98) (by decide) (fun c1 => ?_) (fun c1 => ?_)
        · exact absurd (zk_le (by omega) (by omega) c1) (by omega)
        · refine zr_aload_n C d_O_findFieldFrom_55 (n := 56) rfl rfl ?_
          refine zr_get C f_O_18 d_O_findFieldFrom_56 (n := 59) rfl ho rfl ?_
          refine zr_iload_n C d_O_findFieldFrom_59 (n := 60) rfl rfl ?_
          refine zr_ialdN C d_O_findFieldFrom_60 (n := 61) rfl a2 rfl (by omega) (by decide) ?_
          refine zr_iload C d_O_findFieldFrom_61 (n := 63) rfl rfl ?_
          refine zr_callSN2 C k_O_47 d_O_findFieldFrom_63 (nx := 66) rfl ⟨by dsimp only [rm_O_findFieldFrom]; omega, by dsimp only [rm_O_findFieldFrom]; omega⟩ (by decide) ⟨Nat.le_refl _, Nat.le_refl _⟩ (sp_A_holds l ?_)
          refine zr_if_eq C d_O_findFieldFrom_66 (n := 69) rfl (t := 92) (by decide) (fun c2 => ?_) (fun c2 => ?_)
          · replace c2 := zk_bz c2
            refine zr_iinc C d_O_findFieldFrom_92 (n := 95) rfl rfl (w := 1) (by decide) (nI_1 j) (by decide) rfl ?_
            refine zr_goto C d_O_findFieldFrom_95 (t := 49) (by decide) ?_
            exact ih2 (j + 1) (by omega) (by rw [zo_ffL_go (by simp [c2])] at hK; exact hK)
          · replace c2 := zk_bn c2
            refine zr_aload_n C d_O_findFieldFrom_69 (n := 70) rfl rfl ?_
            refine zr_iload C d_O_findFieldFrom_70 (n := 72) rfl rfl ?_
            refine zr_iload_n C d_O_findFieldFrom_72 (n := 73) rfl rfl ?_
            refine zr_iload_n C d_O_findFieldFrom_73 (n := 74) rfl rfl ?_
            refine zr_iload C d_O_findFieldFrom_74 (n := 76) rfl rfl ?_
            refine zr_iconst C d_O_findFieldFrom_76 (n := 77) rfl (v := nI 1) (by decide) ?_
            refine zr_iadd C d_O_findFieldFrom_77 (n := 78) rfl ?_
            refine zr_toe (y := nI (dp + 1)) (nI_add dp 1) ?_
            refine zr_callV4 C k_O_60 d_O_findFieldFrom_78 (nx := 81) rfl ho rfl ⟨by dsimp only [rm_O_findFieldFrom]; omega, by dsimp only [rm_O_findFieldFrom]; omega⟩ (by decide) ⟨Nat.le_refl _, Nat.le_refl _⟩ (ih (t := j) (dp := dp + 1) (by omega) (by omega) ?_)
            refine zr_istore C d_O_findFieldFrom_81 (n := 83) rfl (by decide) rfl ?_
            refine zr_iload C d_O_findFieldFrom_83 (n := 85) rfl rfl ?_
            refine zr_iconst C d_O_findFieldFrom_85 (n := 86) rfl (v := -1) (by decide) ?_
            refine zr_icmp_eq C d_O_findFieldFrom_86 (n := 89) rfl (t := 92) (by decide) (fun c3 => ?_) (fun c3 => ?_)
            · refine zr_iinc C d_O_findFieldFrom_92 (n := 95) rfl rfl (w := 1) (by decide) (nI_1 j) (by decide) rfl ?_
              refine zr_goto C d_O_findFieldFrom_95 (t := 49) (by decide) ?_
              refine zr_drop 7 ?_
              exact ih2 (j + 1) (by omega) (by rw [zo_ffL_go (by simp [c2, c3])] at hK; exact hK)
            · refine zr_iload C d_O_findFieldFrom_89 (n := 91) rfl rfl ?_
              exact zr_iret C d_O_findFieldFrom_91 rfl (by rw [zo_ffL_yes ⟨c2, c3⟩] at hK; exact hK) (Nat.zero_le _) (Nat.zero_le _)
    refine zr_iload C d_O_findFieldFrom_0 (n := 2) rfl rfl ?_
    refine zr_bipush C d_O_findFieldFrom_2 (n := 4) rfl (v := nI 6) (by decide) ?_
    refine zr_icmp_lt C d_O_findFieldFrom_4 (n := 7) rfl (t := 9) (by decide) (fun c1 => ?_) (fun c1 => ?_)
    · refine zr_iload_n C d_O_findFieldFrom_9 (n := 10) rfl rfl ?_
      refine zr_iconst C d_O_findFieldFrom_10 (n := 11) rfl (v := nI 4) (by decide) ?_
      refine zr_imul C d_O_findFieldFrom_11 (n := 12) rfl ?_
      refine zr_iload_n C d_O_findFieldFrom_12 (n := 13) rfl rfl ?_
      refine zr_iadd C d_O_findFieldFrom_13 (n := 14) rfl ?_
      refine zr_toe (y := nI (t * 4 + nm)) (by simp only [pk_mul, nI_add]) ?_
      refine zr_istore C d_O_findFieldFrom_14 (n := 16) rfl (by decide) rfl ?_
      refine zr_aload_n C d_O_findFieldFrom_16 (n := 17) rfl rfl ?_
      refine zr_get C f_O_21 d_O_findFieldFrom_17 (n := 20) rfl ho rfl ?_
      refine zr_iload C d_O_findFieldFrom_20 (n := 22) rfl rfl ?_
      refine zr_ialdN C d_O_findFieldFrom_22 (n := 23) rfl a3 rfl (by omega) (by decide) ?_
      refine zr_iconst C d_O_findFieldFrom_23 (n := 24) rfl (v := -1) (by decide) ?_
      refine zr_icmp_eq C d_O_findFieldFrom_24 (n := 27) rfl (t := 46) (by decide) (fun c2 => ?_) (fun c2 => ?_)
      · refine zr_iconst C d_O_findFieldFrom_46 (n := 47) rfl (v := nI 0) (by decide) ?_
        refine zr_istore C d_O_findFieldFrom_47 (n := 49) rfl (by decide) rfl ?_
        exact L t 0 (by omega) (by rw [zo_ff_up (by simp [c2])] at hK; exact hK)
      · refine zr_iload_n C d_O_findFieldFrom_27 (n := 28) rfl rfl ?_
        refine zr_iconst C d_O_findFieldFrom_28 (n := 29) rfl (v := -1) (by decide) ?_
        refine zr_icmp_eq C d_O_findFieldFrom_29 (n := 32) rfl (t := 43) (by decide) (fun c3 => ?_) (fun c3 => ?_)
        · refine zr_iload C d_O_findFieldFrom_43 (n := 45) rfl rfl ?_
          exact zr_iret C d_O_findFieldFrom_45 rfl (by rw [zo_ff_own (by simp [c2, c3])] at hK; exact hK) (Nat.zero_le _) (Nat.zero_le _)
        · refine zr_aload_n C d_O_findFieldFrom_32 (n := 33) rfl rfl ?_
          refine zr_get C f_O_24 d_O_findFieldFrom_33 (n := 36) rfl ho rfl ?_
          refine zr_iload C d_O_findFieldFrom_36 (n := 38) rfl rfl ?_
          refine zr_ialdN C d_O_findFieldFrom_38 (n := 39) rfl a4 rfl (by omega) (by decide) ?_
          refine zr_iload_n C d_O_findFieldFrom_39 (n := 40) rfl rfl ?_
          refine zr_icmp_ne C d_O_findFieldFrom_40 (n := 43) rfl (t := 46) (by decide) (fun c4 => ?_) (fun c4 => ?_)
          · refine zr_iconst C d_O_findFieldFrom_46 (n := 47) rfl (v := nI 0) (by decide) ?_
            refine zr_istore C d_O_findFieldFrom_47 (n := 49) rfl (by decide) rfl ?_
            exact L t 0 (by omega) (by rw [zo_ff_up (by simp [c2, c3, c4])] at hK; exact hK)
          · refine zr_iload C d_O_findFieldFrom_43 (n := 45) rfl rfl ?_
            exact zr_iret C d_O_findFieldFrom_45 rfl (by rw [zo_ff_own (by simp [c2, c3, c4])] at hK; exact hK) (Nat.zero_le _) (Nat.zero_le _)
    · exact absurd (nI_lt (by omega) (by omega)) c1
abbrev rm_O_findField : Room := { frames := 8, cells := 0, slots := 0, locals := 27 * 7 + 30 }
set_option maxHeartbeats 4000000 in
set_option maxRecDepth 100000 in
/-- findField -/
theorem sp_O_findField (l : Launch) {h : zk_H} {o : Nat} {O : zo_O} (hO : zo_at h o O) (hw : zo_wf O) {t nm : Nat} (ht : t < 6) (hnm : nm < 4) {kd : Int32} {K : Option Value → zk_H → Prop} (hK : K (some (.int (zo_ff O nm kd 6 t))) h) : zk_S l y_O_findField b_O_findField 4 (some .int) rm_O_findField [.ref (o + 1), .int (nI t), .int (nI nm), .int kd] h K := by
  obtain ⟨ho, a0, a1, a2, a3, a4, a5, a6, a7⟩ := id hO
  refine zk_S_of R_O "findField" (by decide) rfl rfl [some (.ref (o + 1)), some (.int (nI t)), some (.int (nI nm)), some (.int kd)] 0 rfl (Nat.le_of_ble_eq_true rfl) (fun p e s m ar below meth c D dA b base C => ?_)
  refine zr_aload_n C d_O_findField_0 (n := 1) rfl rfl ?_
  refine zr_iload_n C d_O_findField_1 (n := 2) rfl rfl ?_
  refine zr_iload_n C d_O_findField_2 (n := 3) rfl rfl ?_
  refine zr_iload_n C d_O_findField_3 (n := 4) rfl rfl ?_
  refine zr_iconst C d_O_findField_4 (n := 5) rfl (v := nI 0) (by decide) ?_
  refine zr_callV4 C k_O_60 d_O_findField_5 (nx := 8) rfl ho rfl ⟨by decide, by decide⟩ (by decide) ⟨by decide, by decide⟩ (sp_O_findFieldFrom l hO hw hnm 6 (t := t) (dp := 0) ht rfl ?_)
  exact zr_iret C d_O_findField_8 rfl hK (Nat.zero_le _) (Nat.zero_le _)
def zo_mc (O : zo_O) (nm pa : Nat) (an z : Int32) : Nat → Nat → Int32
  | 0, _ => z
  | n + 1, hd => if hd = 6 then z else if zo_ma O (hd * 12 + nm * 4 + pa) an = true then nI (hd * 12 + nm * 4 + pa) else zo_mc O nm pa an z n (O 1 hd).toNatClampNeg
def zo_mi (O : zo_O) (nm pa : Nat) (an x : Int32) : Nat → Int32
  | 0 => -1
  | n + 1 => if zk_bit x n = true ∧ zo_hf O n (nI 1) = true ∧ zo_ma O (n * 12 + nm * 4 + pa) an = true then nI (n * 12 + nm * 4 + pa) else zo_mi O nm pa an x n
def zo_fm (O : zo_O) (t nm pa : Nat) (an : Int32) : Int32 := zo_mc O nm pa an (zo_mi O nm pa an (zo_st O t) 6) 6 t
theorem zo_wf_up {O : zo_O} (hw : zo_wf O) {t : Nat} (ht : t < 6) : ∃ s, s ≤ 6 ∧ O 1 t = nI s := by
  rcases hw t ht with h | ⟨s, h1, h2⟩
  · exact ⟨6, Nat.le_refl 6, h⟩
  · exact ⟨s, by omega, h2⟩
theorem zo_mc_end {O : zo_O} {nm pa : Nat} {an z : Int32} {n : Nat} : zo_mc O nm pa an z n 6 = z := by
  cases n with
  | zero => rfl
  | succ n => rw [zo_mc, if_pos rfl]
theorem zo_mc_yes {O : zo_O} {nm pa : Nat} {an z : Int32} {n hd : Nat} (h1 : ¬ hd = 6) (h2 : zo_ma O (hd * 12 + nm * 4 + pa) an = true) : zo_mc O nm pa an z (n + 1) hd = nI (hd * 12 + nm * 4 + pa) := by rw [zo_mc, if_neg h1, if_pos h2]
theorem zo_mc_go {O : zo_O} {nm pa : Nat} {an z : Int32} {n hd s : Nat} (h1 : ¬ hd = 6) (h2 : zo_ma O (hd * 12 + nm * 4 + pa) an = false) (h3 : O 1 hd = nI s) (hs : s ≤ 6) : zo_mc O nm pa an z (n + 1) hd = zo_mc O nm pa an z n s := by
  rw [zo_mc, if_neg h1, if_neg (by rw [h2]; decide), h3, nI_clamp (by omega)]
theorem zo_mi_yes {O : zo_O} {nm pa : Nat} {an x : Int32} {n : Nat} (h : zk_bit x n = true ∧ zo_hf O n (nI 1) = true ∧ zo_ma O (n * 12 + nm * 4 + pa) an = true) : zo_mi O nm pa an x (n + 1) = nI (n * 12 + nm * 4 + pa) := by rw [zo_mi, if_pos h]
theorem zo_mi_go {O : zo_O} {nm pa : Nat} {an x : Int32} {n : Nat} (h : ¬ (zk_bit x n = true ∧ zo_hf O n (nI 1) = true ∧ zo_ma O (n * 12 + nm * 4 + pa) an = true)) : zo_mi O nm pa an x (n + 1) = zo_mi O nm pa an x n := by rw [zo_mi, if_neg h]
abbrev rm_O_findMethod : Room := { frames := 2, cells := 0, slots := 0, locals := 44 }
set_option maxHeartbeats 4000000 in
set_option maxRecDepth 100000 in
/-- findMethod -/
theorem sp_O_findMethod (l : Launch) {h : zk_H} {o : Nat} {O : zo_O} (hO : zo_at h o O) (hw : zo_wf O) {t nm pa : Nat} (ht : t < 6) (hnm : nm < 3) (hpa : pa < 4) {an : Int32} {K : Option Value → zk_H → Prop} (hK : K (some (.int (zo_fm O t nm pa an))) h) : zk_S l y_O_findMethod b_O_findMethod 9 (some .int) rm_O_findMethod [.ref (o + 1), .int (nI t), .int (nI nm), .int (nI pa), .int an] h K := by
  obtain ⟨ho, a0, a1, a2, a3, a4, a5, a6, a7⟩ := id hO
  refine zk_S_of R_O "findMethod" (by decide) rfl rfl [some (.ref (o + 1)), some (.int (nI t)), some (.int (nI nm)), some (.int (nI pa)), some (.int an), none, none, none, none] 4 rfl (Nat.le_of_ble_eq_true rfl) (fun p e s m ar below meth c D dA b base C => ?_)
  have L2 : ∀ (n : Nat) (z : Int32), z = nI n + (-1) → n ≤ 6 → K (some (.int (zo_mi O nm pa an (zo_st O t) n))) h → zk_V p l e rm_O_findMethod s m ar below meth c 9 D dA b base (MQ below (zk_Q K D dA b base) ar s rm_O_findMethod.cells rm_O_findMethod.slots (fun q : Nat => base ≤ q)) 0 0 68 [some (.ref (o + 1)), some (.int (nI t)), some (.int (nI nm)), some (.int (nI pa)), some (.int an), none, some (.int (zo_st O t)), some (.int z), none] [] h := by
    intro n
    induction n with
    | zero =>
      intro z hz hn hK
      subst hz
      refine zr_iload C d_O_findMethod_68 (n := 70) rfl rfl ?_
      refine zr_if_lt C d_O_findMethod_70 (n := 73) rfl (t := 121) (by decide) (fun c1 => ?_) (fun c1 => ?_)
      · refine zr_iconst C d_O_findMethod_121 (n := 122) rfl (v := -1) (by decide) ?_
        exact zr_iret C d_O_findMethod_122 rfl hK (Nat.zero_le _) (Nat.zero_le _)
      · exact absurd (by decide) c1
    | succ n ih =>
      intro z hz hn hK
      rw [pk_sn] at hz
      subst hz
      refine zr_iload C d_O_findMethod_68 (n := 70) rfl rfl ?_
      refine zr_if_lt C d_O_findMethod_70 (n := 73) rfl (t := 121) (by decide) (fun c1 => ?_) (fun c1 => ?_)
      · exact absurd c1 (nI_pos (by omega))
      · refine zr_iload C d_O_findMethod_73 (n := 75) rfl rfl ?_
        refine zr_iload_n C d_O_findMethod_75 (n := 76) rfl rfl ?_
        refine zr_iload_n C d_O_findMethod_76 (n := 77) rfl rfl ?_
        refine zr_callSN3 C k_O_64 d_O_findMethod_77 (nx := 80) rfl ⟨by decide, by decide⟩ (by decide) ⟨by decide, by decide⟩ (sp_A_methodPlace l ?_)
        refine zr_istore C d_O_findMethod_80 (n := 82) rfl (by decide) rfl ?_
        refine zr_iload C d_O_findMethod_82 (n := 84) rfl rfl ?_
        refine zr_iload C d_O_findMethod_84 (n := 86) rfl rfl ?_
        refine zr_callSN2 C k_O_47 d_O_findMethod_86 (nx := 89) rfl ⟨by decide, by decide⟩ (by decide) ⟨by decide, by decide⟩ (sp_A_holds l ?_)
        refine zr_if_eq C d_O_findMethod_89 (n := 92) rfl (t := 115) (by decide) (fun c2 => ?_) (fun c2 => ?_)
        · replace c2 := zk_bz c2
          refine zr_iinc C d_O_findMethod_115 (n := 118) rfl rfl (w := -1) (by decide) rfl (by decide) rfl ?_
          refine zr_goto C d_O_findMethod_118 (t := 68) (by decide) ?_
          refine zr_drop 8 ?_
          exact ih _ rfl (by omega) (by rw [zo_mi_go (by simp [c2])] at hK; exact hK)
        · replace c2 := zk_bn c2
          refine zr_aload_n C d_O_findMethod_92 (n := 93) rfl rfl ?_
          refine zr_iload C d_O_findMethod_93 (n := 95) rfl rfl ?_
          refine zr_callV1 C k_O_44 d_O_findMethod_95 (nx := 98) rfl ho rfl ⟨by decide, by decide⟩ (by decide) ⟨by decide, by decide⟩ (sp_O_isInterface l hO (by omega) ?_)
          refine zr_if_eq C d_O_findMethod_98 (n := 101) rfl (t := 115) (by decide) (fun c3 => ?_) (fun c3 => ?_)
          · replace c3 := zk_bz c3
            refine zr_iinc C d_O_findMethod_115 (n := 118) rfl rfl (w := -1) (by decide) rfl (by decide) rfl ?_
            refine zr_goto C d_O_findMethod_118 (t := 68) (by decide) ?_
            refine zr_drop 8 ?_
            exact ih _ rfl (by omega) (by rw [zo_mi_go (by simp [c2, c3])] at hK; exact hK)
          · replace c3 := zk_bn c3
            refine zr_aload_n C d_O_findMethod_101 (n := 102) rfl rfl ?_
            refine zr_iload C d_O_findMethod_102 (n := 104) rfl rfl ?_
            refine zr_iload C d_O_findMethod_104 (n := 106) rfl rfl ?_
            refine zr_callV2 C k_O_68 d_O_findMethod_106 (nx := 109) rfl ho rfl ⟨by decide, by decide⟩ (by decide) ⟨by decide, by decide⟩ (sp_O_isMethodAt l hO (by omega) ?_)
            refine zr_if_eq C d_O_findMethod_109 (n := 112) rfl (t := 115) (by decide) (fun c4 => ?_) (fun c4 => ?_)
            · replace c4 := zk_bz c4
              refine zr_iinc C d_O_findMethod_115 (n := 118) rfl rfl (w := -1) (by decide) rfl (by decide) rfl ?_
              refine zr_goto C d_O_findMethod_118 (t := 68) (by decide) ?_
              refine zr_drop 8 ?_
              exact ih _ rfl (by omega) (by rw [zo_mi_go (by simp [c2, c3, c4])] at hK; exact hK)
            · replace c4 := zk_bn c4
              refine zr_iload C d_O_findMethod_112 (n := 114) rfl rfl ?_
              exact zr_iret C d_O_findMethod_114 rfl (by rw [zo_mi_yes (by simp [c2, c3, c4])] at hK; exact hK) (Nat.zero_le _) (Nat.zero_le _)
  have J : K (some (.int (zo_mi O nm pa an (zo_st O t) 6))) h → zk_V p l e rm_O_findMethod s m ar below meth c 9 D dA b base (MQ below (zk_Q K D dA b base) ar s rm_O_findMethod.cells rm_O_findMethod.slots (fun q : Nat => base ≤ q)) 0 0 58 [some (.ref (o + 1)), some (.int (nI t)), some (.int (nI nm)), some (.int (nI pa)), some (.int an), none, none, none, none] [] h := by
    intro hK
    refine zr_aload_n C d_O_findMethod_58 (n := 59) rfl rfl ?_
    refine zr_iload_n C d_O_findMethod_59 (n := 60) rfl rfl ?_
    refine zr_callV1 C k_O_71 d_O_findMethod_60 (nx := 63) rfl ho rfl ⟨by decide, by decide⟩ (by decide) ⟨by decide, by decide⟩ (sp_O_supertypesOf l hO ht ?_)
    refine zr_istore C d_O_findMethod_63 (n := 65) rfl (by decide) rfl ?_
    refine zr_iconst C d_O_findMethod_65 (n := 66) rfl (v := nI 5) (by decide) ?_
    refine zr_istore C d_O_findMethod_66 (n := 68) rfl (by decide) rfl ?_
    exact L2 6 _ (pk_sn 5).symm (by omega) hK
  have L1 : ∀ (n hd j : Nat), hd ≤ 6 → n + j = 6 → K (some (.int (zo_mc O nm pa an (zo_mi O nm pa an (zo_st O t) 6) n hd))) h → zk_V p l e rm_O_findMethod s m ar below meth c 9 D dA b base (MQ below (zk_Q K D dA b base) ar s rm_O_findMethod.cells rm_O_findMethod.slots (fun q : Nat => base ≤ q)) 0 0 6 [some (.ref (o + 1)), some (.int (nI t)), some (.int (nI nm)), some (.int (nI pa)), some (.int an), some (.int (nI hd)), some (.int (nI j)), none, none] [] h := by
    intro n
    induction n with
    | zero =>
      intro hd j hhd hj hK
      refine zr_iload C d_O_findMethod_6 (n := 8) rfl rfl ?_
      refine zr_bipush C d_O_findMethod_8 (n := 10) rfl (v := nI 6) (by decide) ?_
      refine zr_icmp_ge C d_O_findMethod_10 (n := 13) rfl (t := 58) (by decide) (fun c1 => ?_) (fun c1 => ?_)
      · refine zr_drop 5 ?_
        refine zr_drop 6 ?_
        exact J hK
      · exact absurd (zk_nle (by omega) (by omega) c1) (by omega)
    | succ n ih =>
      intro hd j hhd hj hK
      refine zr_iload C d_O_findMethod_6 (n := 8) rfl rfl ?_
      refine zr_bipush C d_O_findMethod_8 (n := 10) rfl (v := nI 6) (by decide) ?_
      refine zr_icmp_ge C d_O_findMethod_10 (n := 13) rfl (t := 58) (by decide) (fun c1 => ?_) (fun c1 => ?_)
      · exact absurd (zk_le (by omega) (by omega) c1) (by omega)
      · refine zr_iload C d_O_findMethod_13 (n := 15) rfl rfl ?_
        refine zr_bipush C d_O_findMethod_15 (n := 17) rfl (v := nI 6) (by decide) ?_
        refine zr_icmp_eq C d_O_findMethod_17 (n := 20) rfl (t := 58) (by decide) (fun c2 => ?_) (fun c2 => ?_)
        · replace c2 := zk_eq (by omega) (by omega) c2
          subst c2
          refine zr_drop 5 ?_
          refine zr_drop 6 ?_
          exact J (by rw [zo_mc_end] at hK; exact hK)
        · replace c2 := zk_ne (by omega) (by omega) c2
          refine zr_iload C d_O_findMethod_20 (n := 22) rfl rfl ?_
          refine zr_iload_n C d_O_findMethod_22 (n := 23) rfl rfl ?_
          refine zr_iload_n C d_O_findMethod_23 (n := 24) rfl rfl ?_
          refine zr_callSN3 C k_O_64 d_O_findMethod_24 (nx := 27) rfl ⟨by decide, by decide⟩ (by decide) ⟨by decide, by decide⟩ (sp_A_methodPlace l ?_)
          refine zr_istore C d_O_findMethod_27 (n := 29) rfl (by decide) rfl ?_
          refine zr_aload_n C d_O_findMethod_29 (n := 30) rfl rfl ?_
          refine zr_iload C d_O_findMethod_30 (n := 32) rfl rfl ?_
          refine zr_iload C d_O_findMethod_32 (n := 34) rfl rfl ?_
          refine zr_callV2 C k_O_68 d_O_findMethod_34 (nx := 37) rfl ho rfl ⟨by decide, by decide⟩ (by decide) ⟨by decide, by decide⟩ (sp_O_isMethodAt l hO (by omega) ?_)
          refine zr_if_eq C d_O_findMethod_37 (n := 40) rfl (t := 43) (by decide) (fun c3 => ?_) (fun c3 => ?_)
          · replace c3 := zk_bz c3
            refine zr_aload_n C d_O_findMethod_43 (n := 44) rfl rfl ?_
            refine zr_get C f_O_15 d_O_findMethod_44 (n := 47) rfl ho rfl ?_
            refine zr_iload C d_O_findMethod_47 (n := 49) rfl rfl ?_
            refine zr_ialdN C d_O_findMethod_49 (n := 50) rfl a1 rfl (by omega) (by decide) ?_
            obtain ⟨s0, hs0, hs0e⟩ := zo_wf_up hw (t := hd) (by omega)
            refine zr_toe (y := nI s0) hs0e ?_
            refine zr_istore C d_O_findMethod_50 (n := 52) rfl (by decide) rfl ?_
            refine zr_iinc C d_O_findMethod_52 (n := 55) rfl rfl (w := 1) (by decide) (nI_1 j) (by decide) rfl ?_
            refine zr_goto C d_O_findMethod_55 (t := 6) (by decide) ?_
            refine zr_drop 7 ?_
            exact ih s0 (j + 1) hs0 (by omega) (by rw [zo_mc_go c2 c3 hs0e hs0] at hK; exact hK)
          · replace c3 := zk_bn c3
            refine zr_iload C d_O_findMethod_40 (n := 42) rfl rfl ?_
            exact zr_iret C d_O_findMethod_42 rfl (by rw [zo_mc_yes c2 c3] at hK; exact hK) (Nat.zero_le _) (Nat.zero_le _)
  refine zr_iload_n C d_O_findMethod_0 (n := 1) rfl rfl ?_
  refine zr_istore C d_O_findMethod_1 (n := 3) rfl (by decide) rfl ?_
  refine zr_iconst C d_O_findMethod_3 (n := 4) rfl (v := nI 0) (by decide) ?_
  refine zr_istore C d_O_findMethod_4 (n := 6) rfl (by decide) rfl ?_
  exact L1 6 t 0 (by omega) rfl hK
end
section
def zo_fnum (fl v : Int32) : Int32 := if fl &&& nI 16 = 0 then nI 0 else v
def zo_fth (O : zo_O) (j : Nat) : Bool := decide (¬ O 3 j = -1)
def zo_mth (O : zo_O) (j : Nat) : Bool := decide (¬ O 6 j = -1)
def zo_cl (s : Nat) : Nat → Nat → (Nat → Int32) → Nat → Int32
  | 0, _, f => f
  | n + 1, j, f => zo_cl s n (j + 1) (upd f (s + j) (-1))
def zo_d3 (O P : zo_O) (t : Nat) : Nat := (if O 0 t = P 0 t then 0 else 1) + (if O 1 t = P 1 t then 0 else 1) + (if O 2 t = P 2 t then 0 else 1)
def zo_dL (f : Nat → Bool) : Nat → Nat → Nat → Nat
  | 0, _, a => a
  | n + 1, j, a => zo_dL f n (j + 1) (if f j = true then a else a + 1)
theorem zo_dL_1 {f : Nat → Bool} {n j a : Nat} (h : f j = true) : zo_dL f (n + 1) j a = zo_dL f n (j + 1) a := by rw [zo_dL, if_pos h]
theorem zo_dL_0 {f : Nat → Bool} {n j a : Nat} (h : f j = false) : zo_dL f (n + 1) j a = zo_dL f n (j + 1) (a + 1) := by rw [zo_dL, if_neg (by rw [h]; decide)]
def zo_df (O P : zo_O) (t : Nat) : Nat := zo_dL (fun j => zo_sm O P (t * 12 + j)) 12 0 (zo_dL (fun j => zo_sf O P (t * 4 + j)) 4 0 (zo_d3 O P t))
abbrev rm_O_putType : Room := { frames := 0, cells := 0, slots := 0, locals := 0 }
set_option maxHeartbeats 4000000 in
set_option maxRecDepth 100000 in
/-- putType -/
theorem sp_O_putType (l : Launch) {h : zk_H} {o : Nat} {O : zo_O} (hO : zo_at h o O) {t : Nat} (ht : t < 6) {x1 x2 x3 : Int32} {K : Option Value → zk_H → Prop} (hK : K none (((h.set (o + 1) (.inl (0, 6, .inl (upd (O 0) t x1)))).set (o + 2) (.inl (0, 6, .inl (upd (O 1) t x2)))).set (o + 3) (.inl (0, 6, .inl (upd (O 2) t x3))))) : zk_S l y_O_putType b_O_putType 5 none rm_O_putType [.ref (o + 1), .int (nI t), .int x1, .int x2, .int x3] h K := by
  obtain ⟨ho, a0, a1, a2, a3, a4, a5, a6, a7⟩ := id hO
  refine zk_S_of R_O "putType" (by decide) rfl rfl [some (.ref (o + 1)), some (.int (nI t)), some (.int x1), some (.int x2), some (.int x3)] 0 rfl (Nat.le_of_ble_eq_true rfl) (fun p e s m ar below meth c D dA b base C => ?_)
  refine zr_aload_n C d_O_putType_0 (n := 1) rfl rfl ?_
  refine zr_get C f_O_9 d_O_putType_1 (n := 4) rfl ho rfl ?_
  refine zr_iload_n C d_O_putType_4 (n := 5) rfl rfl ?_
  refine zr_iload_n C d_O_putType_5 (n := 6) rfl rfl ?_
  refine zr_iastN C d_O_putType_6 (n := 7) rfl a0 rfl (by omega) (by decide) ?_
  refine zr_aload_n C d_O_putType_7 (n := 8) rfl rfl ?_
  refine zr_get C f_O_15 d_O_putType_8 (n := 11) rfl (zk_g1 (by omega) ho) rfl ?_
  refine zr_iload_n C d_O_putType_11 (n := 12) rfl rfl ?_
  refine zr_iload_n C d_O_putType_12 (n := 13) rfl rfl ?_
  refine zr_iastN C d_O_putType_13 (n := 14) rfl (zk_g1 (by omega) a1) rfl (by omega) (by decide) ?_
  refine zr_aload_n C d_O_putType_14 (n := 15) rfl rfl ?_
  refine zr_get C f_O_18 d_O_putType_15 (n := 18) rfl (zk_g1 (by omega) (zk_g1 (by omega) ho)) rfl ?_
  refine zr_iload_n C d_O_putType_18 (n := 19) rfl rfl ?_
  refine zr_iload C d_O_putType_19 (n := 21) rfl rfl ?_
  refine zr_iastN C d_O_putType_21 (n := 22) rfl (zk_g1 (by omega) (zk_g1 (by omega) a2)) rfl (by omega) (by decide) ?_
  exact zr_vret C d_O_putType_22 hK (Nat.zero_le _) (Nat.zero_le _)
abbrev rm_O_putField : Room := { frames := 0, cells := 0, slots := 0, locals := 0 }
set_option maxHeartbeats 4000000 in
set_option maxRecDepth 100000 in
/-- putField(place, kind, flags, number) -/
theorem sp_O_putField (l : Launch) {h : zk_H} {o : Nat} {O : zo_O} (hO : zo_at h o O) {j : Nat} (hj : j < 24) {x1 x2 x3 : Int32} {K : Option Value → zk_H → Prop} (hK : K none (((h.set (o + 4) (.inl (0, 24, .inl (upd (O 3) j x2)))).set (o + 5) (.inl (0, 24, .inl (upd (O 4) j x1)))).set (o + 6) (.inl (0, 24, .inl (upd (O 5) j (zo_fnum x2 x3)))))) : zk_S l y_O_putField b_O_putField 5 none rm_O_putField [.ref (o + 1), .int (nI j), .int x1, .int x2, .int x3] h K := by
  obtain ⟨ho, a0, a1, a2, a3, a4, a5, a6, a7⟩ := id hO
  refine zk_S_of R_O "putField" (by decide) rfl rfl [some (.ref (o + 1)), some (.int (nI j)), some (.int x1), some (.int x2), some (.int x3)] 0 rfl (Nat.le_of_ble_eq_true rfl) (fun p e s m ar below meth c D dA b base C => ?_)
  refine zr_aload_n C d_O_putField_0 (n := 1) rfl rfl ?_
  refine zr_get C f_O_21 d_O_putField_1 (n := 4) rfl ho rfl ?_
  refine zr_iload_n C d_O_putField_4 (n := 5) rfl rfl ?_
  refine zr_iload_n C d_O_putField_5 (n := 6) rfl rfl ?_
  refine zr_iastN C d_O_putField_6 (n := 7) rfl a3 rfl (by omega) (by decide) ?_
  refine zr_aload_n C d_O_putField_7 (n := 8) rfl rfl ?_
  refine zr_get C f_O_24 d_O_putField_8 (n := 11) rfl (zk_g1 (by omega) ho) rfl ?_
  refine zr_iload_n C d_O_putField_11 (n := 12) rfl rfl ?_
  refine zr_iload_n C d_O_putField_12 (n := 13) rfl rfl ?_
  refine zr_iastN C d_O_putField_13 (n := 14) rfl (zk_g1 (by omega) a4) rfl (by omega) (by decide) ?_
  refine zr_aload_n C d_O_putField_14 (n := 15) rfl rfl ?_
  refine zr_get C f_O_27 d_O_putField_15 (n := 18) rfl (zk_g1 (by omega) (zk_g1 (by omega) ho)) rfl ?_
  refine zr_iload_n C d_O_putField_18 (n := 19) rfl rfl ?_
  refine zr_iload_n C d_O_putField_19 (n := 20) rfl rfl ?_
  refine zr_bipush C d_O_putField_20 (n := 22) rfl (v := nI 16) (by decide) ?_
  refine zr_iand C d_O_putField_22 (n := 23) rfl ?_
  refine zr_if_eq C d_O_putField_23 (n := 26) rfl (t := 31) (by decide) (fun c1 => ?_) (fun c1 => ?_)
  · refine zr_iconst C d_O_putField_31 (n := 32) rfl (v := nI 0) (by decide) ?_
    refine zr_iastN C d_O_putField_32 (n := 33) rfl (zk_g1 (by omega) (zk_g1 (by omega) a5)) rfl (by omega) (by decide) ?_
    exact zr_vret C d_O_putField_33 (by rw [zo_fnum, if_pos c1] at hK; exact hK) (Nat.zero_le _) (Nat.zero_le _)
  · refine zr_iload C d_O_putField_26 (n := 28) rfl rfl ?_
    refine zr_goto C d_O_putField_28 (t := 32) (by decide) ?_
    refine zr_iastN C d_O_putField_32 (n := 33) rfl (zk_g1 (by omega) (zk_g1 (by omega) a5)) rfl (by omega) (by decide) ?_
    exact zr_vret C d_O_putField_33 (by rw [zo_fnum, if_neg c1] at hK; exact hK) (Nat.zero_le _) (Nat.zero_le _)
abbrev rm_O_removeField : Room := { frames := 0, cells := 0, slots := 0, locals := 0 }
set_option maxHeartbeats 4000000 in
set_option maxRecDepth 100000 in
/-- removeField -/
theorem sp_O_removeField (l : Launch) {h : zk_H} {o : Nat} {O : zo_O} (hO : zo_at h o O) {j : Nat} (hj : j < 24) {K : Option Value → zk_H → Prop} (hK : K (some (.int (zk_b (zo_fth O j)))) (h.set (o + 4) (.inl (0, 24, .inl (upd (O 3) j (-1)))))) : zk_S l y_O_removeField b_O_removeField 3 (some .boolean) rm_O_removeField [.ref (o + 1), .int (nI j)] h K := by
  obtain ⟨ho, a0, a1, a2, a3, a4, a5, a6, a7⟩ := id hO
  refine zk_S_of R_O "removeField" (by decide) rfl rfl [some (.ref (o + 1)), some (.int (nI j)), none] 1 rfl (Nat.le_of_ble_eq_true rfl) (fun p e s m ar below meth c D dA b base C => ?_)
  refine zr_aload_n C d_O_removeField_0 (n := 1) rfl rfl ?_
  refine zr_get C f_O_21 d_O_removeField_1 (n := 4) rfl ho rfl ?_
  refine zr_iload_n C d_O_removeField_4 (n := 5) rfl rfl ?_
  refine zr_ialdN C d_O_removeField_5 (n := 6) rfl a3 rfl (by omega) (by decide) ?_
  refine zr_iconst C d_O_removeField_6 (n := 7) rfl (v := -1) (by decide) ?_
  refine zr_icmp_eq C d_O_removeField_7 (n := 10) rfl (t := 14) (by decide) (fun c1 => ?_) (fun c1 => ?_)
  · refine zr_iconst C d_O_removeField_14 (n := 15) rfl (v := nI 0) (by decide) ?_
    refine zr_istore_n C d_O_removeField_15 (n := 16) rfl (by decide) rfl ?_
    refine zr_aload_n C d_O_removeField_16 (n := 17) rfl rfl ?_
    refine zr_get C f_O_21 d_O_removeField_17 (n := 20) rfl ho rfl ?_
    refine zr_iload_n C d_O_removeField_20 (n := 21) rfl rfl ?_
    refine zr_iconst C d_O_removeField_21 (n := 22) rfl (v := -1) (by decide) ?_
    refine zr_iastN C d_O_removeField_22 (n := 23) rfl a3 rfl (by omega) (by decide) ?_
    refine zr_iload_n C d_O_removeField_23 (n := 24) rfl rfl ?_
    exact zr_zret C d_O_removeField_24 (by simp [zo_fth, zk_b, c1]) (by decide) hK (Nat.zero_le _) (Nat.zero_le _)
  · refine zr_iconst C d_O_removeField_10 (n := 11) rfl (v := nI 1) (by decide) ?_
    refine zr_goto C d_O_removeField_11 (t := 15) (by decide) ?_
    refine zr_istore_n C d_O_removeField_15 (n := 16) rfl (by decide) rfl ?_
    refine zr_aload_n C d_O_removeField_16 (n := 17) rfl rfl ?_
    refine zr_get C f_O_21 d_O_removeField_17 (n := 20) rfl ho rfl ?_
    refine zr_iload_n C d_O_removeField_20 (n := 21) rfl rfl ?_
    refine zr_iconst C d_O_removeField_21 (n := 22) rfl (v := -1) (by decide) ?_
    refine zr_iastN C d_O_removeField_22 (n := 23) rfl a3 rfl (by omega) (by decide) ?_
    refine zr_iload_n C d_O_removeField_23 (n := 24) rfl rfl ?_
    exact zr_zret C d_O_removeField_24 (by simp [zo_fth, zk_b, c1]) (by decide) hK (Nat.zero_le _) (Nat.zero_le _)
abbrev rm_O_removeMethod : Room := { frames := 0, cells := 0, slots := 0, locals := 0 }
set_option maxHeartbeats 4000000 in
set_option maxRecDepth 100000 in
/-- removeMethod -/
theorem sp_O_removeMethod (l : Launch) {h : zk_H} {o : Nat} {O : zo_O} (hO : zo_at h o O) {j : Nat} (hj : j < 72) {K : Option Value → zk_H → Prop} (hK : K (some (.int (zk_b (zo_mth O j)))) (h.set (o + 7) (.inl (0, 72, .inl (upd (O 6) j (-1)))))) : zk_S l y_O_removeMethod b_O_removeMethod 3 (some .boolean) rm_O_removeMethod [.ref (o + 1), .int (nI j)] h K := by
  obtain ⟨ho, a0, a1, a2, a3, a4, a5, a6, a7⟩ := id hO
  refine zk_S_of R_O "removeMethod" (by decide) rfl rfl [some (.ref (o + 1)), some (.int (nI j)), none] 1 rfl (Nat.le_of_ble_eq_true rfl) (fun p e s m ar below meth c D dA b base C => ?_)
  refine zr_aload_n C d_O_removeMethod_0 (n := 1) rfl rfl ?_
  refine zr_get C f_O_30 d_O_removeMethod_1 (n := 4) rfl ho rfl ?_
  refine zr_iload_n C d_O_removeMethod_4 (n := 5) rfl rfl ?_
  refine zr_ialdN C d_O_removeMethod_5 (n := 6) rfl a6 rfl (by omega) (by decide) ?_
  refine zr_iconst C d_O_removeMethod_6 (n := 7) rfl (v := -1) (by decide) ?_
  refine zr_icmp_eq C d_O_removeMethod_7 (n := 10) rfl (t := 14) (by decide) (fun c1 => ?_) (fun c1 => ?_)
  · refine zr_iconst C d_O_removeMethod_14 (n := 15) rfl (v := nI 0) (by decide) ?_
    refine zr_istore_n C d_O_removeMethod_15 (n := 16) rfl (by decide) rfl ?_
    refine zr_aload_n C d_O_removeMethod_16 (n := 17) rfl rfl ?_
    refine zr_get C f_O_30 d_O_removeMethod_17 (n := 20) rfl ho rfl ?_
    refine zr_iload_n C d_O_removeMethod_20 (n := 21) rfl rfl ?_
    refine zr_iconst C d_O_removeMethod_21 (n := 22) rfl (v := -1) (by decide) ?_
    refine zr_iastN C d_O_removeMethod_22 (n := 23) rfl a6 rfl (by omega) (by decide) ?_
    refine zr_iload_n C d_O_removeMethod_23 (n := 24) rfl rfl ?_
    exact zr_zret C d_O_removeMethod_24 (by simp [zo_mth, zk_b, c1]) (by decide) hK (Nat.zero_le _) (Nat.zero_le _)
  · refine zr_iconst C d_O_removeMethod_10 (n := 11) rfl (v := nI 1) (by decide) ?_
    refine zr_goto C d_O_removeMethod_11 (t := 15) (by decide) ?_
    refine zr_istore_n C d_O_removeMethod_15 (n := 16) rfl (by decide) rfl ?_
    refine zr_aload_n C d_O_removeMethod_16 (n := 17) rfl rfl ?_
    refine zr_get C f_O_30 d_O_removeMethod_17 (n := 20) rfl ho rfl ?_
    refine zr_iload_n C d_O_removeMethod_20 (n := 21) rfl rfl ?_
    refine zr_iconst C d_O_removeMethod_21 (n := 22) rfl (v := -1) (by decide) ?_
    refine zr_iastN C d_O_removeMethod_22 (n := 23) rfl a6 rfl (by omega) (by decide) ?_
    refine zr_iload_n C d_O_removeMethod_23 (n := 24) rfl rfl ?_
    exact zr_zret C d_O_removeMethod_24 (by simp [zo_mth, zk_b, c1]) (by decide) hK (Nat.zero_le _) (Nat.zero_le _)
abbrev rm_O_putMethod : Room := { frames := 0, cells := 0, slots := 0, locals := 0 }
set_option maxHeartbeats 4000000 in
set_option maxRecDepth 100000 in
/-- putMethod(place, answer, flags) -/
theorem sp_O_putMethod (l : Launch) {h : zk_H} {o : Nat} {O : zo_O} (hO : zo_at h o O) {j : Nat} (hj : j < 72) {x1 x2 : Int32} {K : Option Value → zk_H → Prop} (hK : K none ((h.set (o + 7) (.inl (0, 72, .inl (upd (O 6) j x2)))).set (o + 8) (.inl (0, 72, .inl (upd (O 7) j x1))))) : zk_S l y_O_putMethod b_O_putMethod 4 none rm_O_putMethod [.ref (o + 1), .int (nI j), .int x1, .int x2] h K := by
  obtain ⟨ho, a0, a1, a2, a3, a4, a5, a6, a7⟩ := id hO
  refine zk_S_of R_O "putMethod" (by decide) rfl rfl [some (.ref (o + 1)), some (.int (nI j)), some (.int x1), some (.int x2)] 0 rfl (Nat.le_of_ble_eq_true rfl) (fun p e s m ar below meth c D dA b base C => ?_)
  refine zr_aload_n C d_O_putMethod_0 (n := 1) rfl rfl ?_
  refine zr_get C f_O_30 d_O_putMethod_1 (n := 4) rfl ho rfl ?_
  refine zr_iload_n C d_O_putMethod_4 (n := 5) rfl rfl ?_
  refine zr_iload_n C d_O_putMethod_5 (n := 6) rfl rfl ?_
  refine zr_iastN C d_O_putMethod_6 (n := 7) rfl a6 rfl (by omega) (by decide) ?_
  refine zr_aload_n C d_O_putMethod_7 (n := 8) rfl rfl ?_
  refine zr_get C f_O_33 d_O_putMethod_8 (n := 11) rfl (zk_g1 (by omega) ho) rfl ?_
  refine zr_iload_n C d_O_putMethod_11 (n := 12) rfl rfl ?_
  refine zr_iload_n C d_O_putMethod_12 (n := 13) rfl rfl ?_
  refine zr_iastN C d_O_putMethod_13 (n := 14) rfl (zk_g1 (by omega) a7) rfl (by omega) (by decide) ?_
  exact zr_vret C d_O_putMethod_14 hK (Nat.zero_le _) (Nat.zero_le _)
theorem zk_ss {h : zk_H} {i : Nat} {x : zk_E} (hh : h[i]? = some x) : h.set i x = h := by
  apply List.ext_getElem?
  intro j
  by_cases hj : i = j
  · subst hj
    rw [hh]
    exact zk_g0 hh
  · exact zk_g1 hj rfl
theorem zk_sset {h : zk_H} {i : Nat} {x y : zk_E} : (h.set i x).set i y = h.set i y := List.set_set ..
abbrev rm_O_removeType : Room := { frames := 1, cells := 0, slots := 0, locals := 24 }
set_option maxHeartbeats 4000000 in
set_option maxRecDepth 100000 in
/-- removeType -/
theorem sp_O_removeType (l : Launch) {h : zk_H} {o : Nat} {O : zo_O} (hO : zo_at h o O) {t : Nat} (ht : t < 6) {K : Option Value → zk_H → Prop} (hK : K none (((((h.set (o + 1) (.inl (0, 6, .inl (upd (O 0) t (-1))))).set (o + 2) (.inl (0, 6, .inl (upd (O 1) t (nI 6))))).set (o + 3) (.inl (0, 6, .inl (upd (O 2) t (nI 0))))).set (o + 4) (.inl (0, 24, .inl (zo_cl (t * 4) 4 0 (O 3))))).set (o + 7) (.inl (0, 72, .inl (zo_cl (t * 12) 12 0 (O 6)))))) : zk_S l y_O_removeType b_O_removeType 3 none rm_O_removeType [.ref (o + 1), .int (nI t)] h K := by
  obtain ⟨ho, a0, a1, a2, a3, a4, a5, a6, a7⟩ := id hO
  refine zk_S_of R_O "removeType" (by decide) rfl rfl [some (.ref (o + 1)), some (.int (nI t)), none] 1 rfl (Nat.le_of_ble_eq_true rfl) (fun p e s m ar below meth c D dA b base C => ?_)
  have L2 : ∀ (n j : Nat) (h2 : zk_H) (f : Nat → Int32), h2[o]? = h[o]? → h2[o + 7]? = some (.inl (0, 72, .inl f)) → n + j = 12 → K none (h2.set (o + 7) (.inl (0, 72, .inl (zo_cl (t * 12) n j f)))) → zk_V p l e rm_O_removeType s m ar below meth c 3 D dA b base (MQ below (zk_Q K D dA b base) ar s rm_O_removeType.cells rm_O_removeType.slots (fun q : Nat => base ≤ q)) 0 0 35 [some (.ref (o + 1)), some (.int (nI t)), some (.int (nI j))] [] h2 := by
    intro n
    induction n with
    | zero =>
      intro j h2 f bo b6 hj hK
      rw [ho] at bo
      refine zr_iload_n C d_O_removeType_35 (n := 36) rfl rfl ?_
      refine zr_bipush C d_O_removeType_36 (n := 38) rfl (v := nI 12) (by decide) ?_
      refine zr_icmp_ge C d_O_removeType_38 (n := 41) rfl (t := 59) (by decide) (fun c1 => ?_) (fun c1 => ?_)
      · exact zr_vret C d_O_removeType_59 (by rw [zo_cl, zk_ss b6] at hK; exact hK) (Nat.zero_le _) (Nat.zero_le _)
      · exact absurd (zk_nle (by omega) (by omega) c1) (by omega)
    | succ n ih =>
      intro j h2 f bo b6 hj hK
      have bo0 := bo
      rw [ho] at bo
      refine zr_iload_n C d_O_removeType_35 (n := 36) rfl rfl ?_
      refine zr_bipush C d_O_removeType_36 (n := 38) rfl (v := nI 12) (by decide) ?_
      refine zr_icmp_ge C d_O_removeType_38 (n := 41) rfl (t := 59) (by decide) (fun c1 => ?_) (fun c1 => ?_)
      · exact absurd (zk_le (by omega) (by omega) c1) (by omega)
      · refine zr_aload_n C d_O_removeType_41 (n := 42) rfl rfl ?_
        refine zr_get C f_O_30 d_O_removeType_42 (n := 45) rfl bo rfl ?_
        refine zr_iload_n C d_O_removeType_45 (n := 46) rfl rfl ?_
        refine zr_bipush C d_O_removeType_46 (n := 48) rfl (v := nI 12) (by decide) ?_
        refine zr_imul C d_O_removeType_48 (n := 49) rfl ?_
        refine zr_iload_n C d_O_removeType_49 (n := 50) rfl rfl ?_
        refine zr_iadd C d_O_removeType_50 (n := 51) rfl ?_
        refine zr_iconst C d_O_removeType_51 (n := 52) rfl (v := -1) (by decide) ?_
        refine zr_iastN C d_O_removeType_52 (n := 53) rfl b6 (j := t * 12 + j) (by simp only [pk_mul, nI_add]) (by omega) (by decide) ?_
        refine zr_iinc C d_O_removeType_53 (n := 56) rfl rfl (w := 1) (by decide) (nI_1 j) (by decide) rfl ?_
        refine zr_goto C d_O_removeType_56 (t := 35) (by decide) ?_
        exact ih (j + 1) _ _ (zk_g1 (by omega) bo0) (zk_g0 b6) (by omega) (by rw [zk_sset]; exact hK)
  have L1 : ∀ (n j : Nat) (h2 : zk_H) (f : Nat → Int32), h2[o]? = h[o]? → h2[o + 4]? = some (.inl (0, 24, .inl f)) → h2[o + 7]? = some (.inl (0, 72, .inl (O 6))) → n + j = 4 → K none ((h2.set (o + 4) (.inl (0, 24, .inl (zo_cl (t * 4) n j f)))).set (o + 7) (.inl (0, 72, .inl (zo_cl (t * 12) 12 0 (O 6))))) → zk_V p l e rm_O_removeType s m ar below meth c 3 D dA b base (MQ below (zk_Q K D dA b base) ar s rm_O_removeType.cells rm_O_removeType.slots (fun q : Nat => base ≤ q)) 0 0 11 [some (.ref (o + 1)), some (.int (nI t)), some (.int (nI j))] [] h2 := by
    intro n
    induction n with
    | zero =>
      intro j h2 f bo b3 b6 hj hK
      have bo0 := bo
      rw [ho] at bo
      refine zr_iload_n C d_O_removeType_11 (n := 12) rfl rfl ?_
      refine zr_iconst C d_O_removeType_12 (n := 13) rfl (v := nI 4) (by decide) ?_
      refine zr_icmp_ge C d_O_removeType_13 (n := 16) rfl (t := 33) (by decide) (fun c1 => ?_) (fun c1 => ?_)
      · refine zr_iconst C d_O_removeType_33 (n := 34) rfl (v := nI 0) (by decide) ?_
        refine zr_istore_n C d_O_removeType_34 (n := 35) rfl (by decide) rfl ?_
        exact L2 12 0 _ _ bo0 b6 rfl (by rw [zo_cl, zk_ss b3] at hK; exact hK)
      · exact absurd (zk_nle (by omega) (by omega) c1) (by omega)
    | succ n ih =>
      intro j h2 f bo b3 b6 hj hK
      have bo0 := bo
      rw [ho] at bo
      refine zr_iload_n C d_O_removeType_11 (n := 12) rfl rfl ?_
      refine zr_iconst C d_O_removeType_12 (n := 13) rfl (v := nI 4) (by decide) ?_
      refine zr_icmp_ge C d_O_removeType_13 (n := 16) rfl (t := 33) (by decide) (fun c1 => ?_) (fun c1 => ?_)
      · exact absurd (zk_le (by omega) (by omega) c1) (by omega)
      · refine zr_aload_n C d_O_removeType_16 (n := 17) rfl rfl ?_
        refine zr_get C f_O_21 d_O_removeType_17 (n := 20) rfl bo rfl ?_
        refine zr_iload_n C d_O_removeType_20 (n := 21) rfl rfl ?_
        refine zr_iconst C d_O_removeType_21 (n := 22) rfl (v := nI 4) (by decide) ?_
        refine zr_imul C d_O_removeType_22 (n := 23) rfl ?_
        refine zr_iload_n C d_O_removeType_23 (n := 24) rfl rfl ?_
        refine zr_iadd C d_O_removeType_24 (n := 25) rfl ?_
        refine zr_iconst C d_O_removeType_25 (n := 26) rfl (v := -1) (by decide) ?_
        refine zr_iastN C d_O_removeType_26 (n := 27) rfl b3 (j := t * 4 + j) (by simp only [pk_mul, nI_add]) (by omega) (by decide) ?_
        refine zr_iinc C d_O_removeType_27 (n := 30) rfl rfl (w := 1) (by decide) (nI_1 j) (by decide) rfl ?_
        refine zr_goto C d_O_removeType_30 (t := 11) (by decide) ?_
        exact ih (j + 1) _ _ (zk_g1 (by omega) bo0) (zk_g0 b3) (zk_g1 (by omega) b6) (by omega) (by rw [zk_sset]; exact hK)
  refine zr_aload_n C d_O_removeType_0 (n := 1) rfl rfl ?_
  refine zr_iload_n C d_O_removeType_1 (n := 2) rfl rfl ?_
  refine zr_iconst C d_O_removeType_2 (n := 3) rfl (v := -1) (by decide) ?_
  refine zr_bipush C d_O_removeType_3 (n := 5) rfl (v := nI 6) (by decide) ?_
  refine zr_iconst C d_O_removeType_5 (n := 6) rfl (v := nI 0) (by decide) ?_
  refine zr_callV4 C k_O_50 d_O_removeType_6 (nx := 9) rfl ho rfl ⟨by decide, by decide⟩ (by decide) ⟨by decide, by decide⟩ (sp_O_putType l hO ht ?_)
  refine zr_iconst C d_O_removeType_9 (n := 10) rfl (v := nI 0) (by decide) ?_
  refine zr_istore_n C d_O_removeType_10 (n := 11) rfl (by decide) rfl ?_
  exact L1 4 0 _ _ (zk_g1 (by omega) (zk_g1 (by omega) (zk_g1 (by omega) rfl))) (zk_g1 (by omega) (zk_g1 (by omega) (zk_g1 (by omega) a3))) (zk_g1 (by omega) (zk_g1 (by omega) (zk_g1 (by omega) a6))) rfl hK
abbrev rm_O_becomeAs : Room := { frames := 1, cells := 0, slots := 0, locals := 100 }
set_option maxHeartbeats 4000000 in
set_option maxRecDepth 100000 in
/-- becomeAs -/
theorem sp_O_becomeAs (l : Launch) {h : zk_H} {o : Nat} {O : zo_O} (hO : zo_at h o O) {q : Nat} {P : zo_O} (hP : zo_at h q P) (hd : o + 9 ≤ q ∨ q + 9 ≤ o) {K : Option Value → zk_H → Prop} (hK : K none ((((((((h.set (o + 1) (.inl (0, 6, .inl (va_cpy (P 0) (O 0) 0 0 6)))).set (o + 2) (.inl (0, 6, .inl (va_cpy (P 1) (O 1) 0 0 6)))).set (o + 3) (.inl (0, 6, .inl (va_cpy (P 2) (O 2) 0 0 6)))).set (o + 4) (.inl (0, 24, .inl (va_cpy (P 3) (O 3) 0 0 24)))).set (o + 5) (.inl (0, 24, .inl (va_cpy (P 4) (O 4) 0 0 24)))).set (o + 6) (.inl (0, 24, .inl (va_cpy (P 5) (O 5) 0 0 24)))).set (o + 7) (.inl (0, 72, .inl (va_cpy (P 6) (O 6) 0 0 72)))).set (o + 8) (.inl (0, 72, .inl (va_cpy (P 7) (O 7) 0 0 72))))) : zk_S l y_O_becomeAs b_O_becomeAs 2 none rm_O_becomeAs [.ref (o + 1), .ref (q + 1)] h K := by
  obtain ⟨ho, a0, a1, a2, a3, a4, a5, a6, a7⟩ := id hO
  obtain ⟨go, g0, g1, g2, g3, g4, g5, g6, g7⟩ := id hP
  refine zk_S_of R_O "becomeAs" (by decide) rfl rfl [some (.ref (o + 1)), some (.ref (q + 1))] 0 rfl (Nat.le_of_ble_eq_true rfl) (fun p e s m ar below meth c D dA b base C => ?_)
  refine zr_aload_n C d_O_becomeAs_0 (n := 1) rfl rfl ?_
  refine zr_get C f_O_9 d_O_becomeAs_1 (n := 4) rfl go rfl ?_
  refine zr_iconst C d_O_becomeAs_4 (n := 5) rfl (v := nI 0) (by decide) ?_
  refine zr_aload_n C d_O_becomeAs_5 (n := 6) rfl rfl ?_
  refine zr_get C f_O_9 d_O_becomeAs_6 (n := 9) rfl ho rfl ?_
  refine zr_iconst C d_O_becomeAs_9 (n := 10) rfl (v := nI 0) (by decide) ?_
  refine zr_bipush C d_O_becomeAs_10 (n := 12) rfl (v := nI 6) (by decide) ?_
  refine zr_copyi C a_O_54 d_O_becomeAs_12 (n := 15) rfl g0 a0 (by decide) (N := 6) (by decide) (by decide) (by decide) (by simp) (by decide) (by decide) ?_
  refine zr_aload_n C d_O_becomeAs_15 (n := 16) rfl rfl ?_
  refine zr_get C f_O_15 d_O_becomeAs_16 (n := 19) rfl (zk_g1 (by omega) go) rfl ?_
  refine zr_iconst C d_O_becomeAs_19 (n := 20) rfl (v := nI 0) (by decide) ?_
  refine zr_aload_n C d_O_becomeAs_20 (n := 21) rfl rfl ?_
  refine zr_get C f_O_15 d_O_becomeAs_21 (n := 24) rfl (zk_g1 (by omega) ho) rfl ?_
  refine zr_iconst C d_O_becomeAs_24 (n := 25) rfl (v := nI 0) (by decide) ?_
  refine zr_bipush C d_O_becomeAs_25 (n := 27) rfl (v := nI 6) (by decide) ?_
  refine zr_copyi C a_O_54 d_O_becomeAs_27 (n := 30) rfl (zk_g1 (by omega) g1) (zk_g1 (by omega) a1) (by decide) (N := 6) (by decide) (by decide) (by decide) (by simp) (by decide) (by decide) ?_
  refine zr_aload_n C d_O_becomeAs_30 (n := 31) rfl rfl ?_
  refine zr_get C f_O_18 d_O_becomeAs_31 (n := 34) rfl (zk_g1 (by omega) (zk_g1 (by omega) go)) rfl ?_
  refine zr_iconst C d_O_becomeAs_34 (n := 35) rfl (v := nI 0) (by decide) ?_
  refine zr_aload_n C d_O_becomeAs_35 (n := 36) rfl rfl ?_
  refine zr_get C f_O_18 d_O_becomeAs_36 (n := 39) rfl (zk_g1 (by omega) (zk_g1 (by omega) ho)) rfl ?_
  refine zr_iconst C d_O_becomeAs_39 (n := 40) rfl (v := nI 0) (by decide) ?_
  refine zr_bipush C d_O_becomeAs_40 (n := 42) rfl (v := nI 6) (by decide) ?_
  refine zr_copyi C a_O_54 d_O_becomeAs_42 (n := 45) rfl (zk_g1 (by omega) (zk_g1 (by omega) g2)) (zk_g1 (by omega) (zk_g1 (by omega) a2)) (by decide) (N := 6) (by decide) (by decide) (by decide) (by simp) (by decide) (by decide) ?_
  refine zr_aload_n C d_O_becomeAs_45 (n := 46) rfl rfl ?_
  refine zr_get C f_O_21 d_O_becomeAs_46 (n := 49) rfl (zk_g1 (by omega) (zk_g1 (by omega) (zk_g1 (by omega) go))) rfl ?_
  refine zr_iconst C d_O_becomeAs_49 (n := 50) rfl (v := nI 0) (by decide) ?_
  refine zr_aload_n C d_O_becomeAs_50 (n := 51) rfl rfl ?_
  refine zr_get C f_O_21 d_O_becomeAs_51 (n := 54) rfl (zk_g1 (by omega) (zk_g1 (by omega) (zk_g1 (by omega) ho))) rfl ?_
  refine zr_iconst C d_O_becomeAs_54 (n := 55) rfl (v := nI 0) (by decide) ?_
  refine zr_bipush C d_O_becomeAs_55 (n := 57) rfl (v := nI 24) (by decide) ?_
  refine zr_copyi C a_O_54 d_O_becomeAs_57 (n := 60) rfl (zk_g1 (by omega) (zk_g1 (by omega) (zk_g1 (by omega) g3))) (zk_g1 (by omega) (zk_g1 (by omega) (zk_g1 (by omega) a3))) (by decide) (N := 24) (by decide) (by decide) (by decide) (by simp) (by decide) (by decide) ?_
  refine zr_aload_n C d_O_becomeAs_60 (n := 61) rfl rfl ?_
  refine zr_get C f_O_24 d_O_becomeAs_61 (n := 64) rfl (zk_g1 (by omega) (zk_g1 (by omega) (zk_g1 (by omega) (zk_g1 (by omega) go)))) rfl ?_
  refine zr_iconst C d_O_becomeAs_64 (n := 65) rfl (v := nI 0) (by decide) ?_
  refine zr_aload_n C d_O_becomeAs_65 (n := 66) rfl rfl ?_
  refine zr_get C f_O_24 d_O_becomeAs_66 (n := 69) rfl (zk_g1 (by omega) (zk_g1 (by omega) (zk_g1 (by omega) (zk_g1 (by omega) ho)))) rfl ?_
  refine zr_iconst C d_O_becomeAs_69 (n := 70) rfl (v := nI 0) (by decide) ?_
  refine zr_bipush C d_O_becomeAs_70 (n := 72) rfl (v := nI 24) (by decide) ?_
  refine zr_copyi C a_O_54 d_O_becomeAs_72 (n := 75) rfl (zk_g1 (by omega) (zk_g1 (by omega) (zk_g1 (by omega) (zk_g1 (by omega) g4)))) (zk_g1 (by omega) (zk_g1 (by omega) (zk_g1 (by omega) (zk_g1 (by omega) a4)))) (by decide) (N := 24) (by decide) (by decide) (by decide) (by simp) (by decide) (by decide) ?_
  refine zr_aload_n C d_O_becomeAs_75 (n := 76) rfl rfl ?_
  refine zr_get C f_O_27 d_O_becomeAs_76 (n := 79) rfl (zk_g1 (by omega) (zk_g1 (by omega) (zk_g1 (by omega) (zk_g1 (by omega) (zk_g1 (by omega) go))))) rfl ?_
  refine zr_iconst C d_O_becomeAs_79 (n := 80) rfl (v := nI 0) (by decide) ?_
  refine zr_aload_n C d_O_becomeAs_80 (n := 81) rfl rfl ?_
  refine zr_get C f_O_27 d_O_becomeAs_81 (n := 84) rfl (zk_g1 (by omega) (zk_g1 (by omega) (zk_g1 (by omega) (zk_g1 (by omega) (zk_g1 (by omega) ho))))) rfl ?_
  refine zr_iconst C d_O_becomeAs_84 (n := 85) rfl (v := nI 0) (by decide) ?_
  refine zr_bipush C d_O_becomeAs_85 (n := 87) rfl (v := nI 24) (by decide) ?_
  refine zr_copyi C a_O_54 d_O_becomeAs_87 (n := 90) rfl (zk_g1 (by omega) (zk_g1 (by omega) (zk_g1 (by omega) (zk_g1 (by omega) (zk_g1 (by omega) g5))))) (zk_g1 (by omega) (zk_g1 (by omega) (zk_g1 (by omega) (zk_g1 (by omega) (zk_g1 (by omega) a5))))) (by decide) (N := 24) (by decide) (by decide) (by decide) (by simp) (by decide) (by decide) ?_
  refine zr_aload_n C d_O_becomeAs_90 (n := 91) rfl rfl ?_
  refine zr_get C f_O_30 d_O_becomeAs_91 (n := 94) rfl (zk_g1 (by omega) (zk_g1 (by omega) (zk_g1 (by omega) (zk_g1 (by omega) (zk_g1 (by omega) (zk_g1 (by omega) go)))))) rfl ?_
  refine zr_iconst C d_O_becomeAs_94 (n := 95) rfl (v := nI 0) (by decide) ?_
  refine zr_aload_n C d_O_becomeAs_95 (n := 96) rfl rfl ?_
  refine zr_get C f_O_30 d_O_becomeAs_96 (n := 99) rfl (zk_g1 (by omega) (zk_g1 (by omega) (zk_g1 (by omega) (zk_g1 (by omega) (zk_g1 (by omega) (zk_g1 (by omega) ho)))))) rfl ?_
  refine zr_iconst C d_O_becomeAs_99 (n := 100) rfl (v := nI 0) (by decide) ?_
  refine zr_bipush C d_O_becomeAs_100 (n := 102) rfl (v := nI 72) (by decide) ?_
  refine zr_copyi C a_O_54 d_O_becomeAs_102 (n := 105) rfl (zk_g1 (by omega) (zk_g1 (by omega) (zk_g1 (by omega) (zk_g1 (by omega) (zk_g1 (by omega) (zk_g1 (by omega) g6)))))) (zk_g1 (by omega) (zk_g1 (by omega) (zk_g1 (by omega) (zk_g1 (by omega) (zk_g1 (by omega) (zk_g1 (by omega) a6)))))) (by decide) (N := 72) (by decide) (by decide) (by decide) (by simp) (by decide) (by decide) ?_
  refine zr_aload_n C d_O_becomeAs_105 (n := 106) rfl rfl ?_
  refine zr_get C f_O_33 d_O_becomeAs_106 (n := 109) rfl (zk_g1 (by omega) (zk_g1 (by omega) (zk_g1 (by omega) (zk_g1 (by omega) (zk_g1 (by omega) (zk_g1 (by omega) (zk_g1 (by omega) go))))))) rfl ?_
  refine zr_iconst C d_O_becomeAs_109 (n := 110) rfl (v := nI 0) (by decide) ?_
  refine zr_aload_n C d_O_becomeAs_110 (n := 111) rfl rfl ?_
  refine zr_get C f_O_33 d_O_becomeAs_111 (n := 114) rfl (zk_g1 (by omega) (zk_g1 (by omega) (zk_g1 (by omega) (zk_g1 (by omega) (zk_g1 (by omega) (zk_g1 (by omega) (zk_g1 (by omega) ho))))))) rfl ?_
  refine zr_iconst C d_O_becomeAs_114 (n := 115) rfl (v := nI 0) (by decide) ?_
  refine zr_bipush C d_O_becomeAs_115 (n := 117) rfl (v := nI 72) (by decide) ?_
  refine zr_copyi C a_O_54 d_O_becomeAs_117 (n := 120) rfl (zk_g1 (by omega) (zk_g1 (by omega) (zk_g1 (by omega) (zk_g1 (by omega) (zk_g1 (by omega) (zk_g1 (by omega) (zk_g1 (by omega) g7))))))) (zk_g1 (by omega) (zk_g1 (by omega) (zk_g1 (by omega) (zk_g1 (by omega) (zk_g1 (by omega) (zk_g1 (by omega) (zk_g1 (by omega) a7))))))) (by decide) (N := 72) (by decide) (by decide) (by decide) (by simp) (by decide) (by decide) ?_
  exact zr_vret C d_O_becomeAs_120 hK (Nat.zero_le _) (Nat.zero_le _)
abbrev rm_O_differencesFrom : Room := { frames := 1, cells := 0, slots := 0, locals := 22 }
set_option maxHeartbeats 4000000 in
set_option maxRecDepth 100000 in
/-- differencesFrom -/
theorem sp_O_differencesFrom (l : Launch) {h : zk_H} {o : Nat} {O : zo_O} (hO : zo_at h o O) {q : Nat} {P : zo_O} (hP : zo_at h q P) {t : Nat} (ht : t < 6) {K : Option Value → zk_H → Prop} (hK : K (some (.int (nI (zo_df O P t)))) h) : zk_S l y_O_differencesFrom b_O_differencesFrom 5 (some .int) rm_O_differencesFrom [.ref (o + 1), .ref (q + 1), .int (nI t)] h K := by
  obtain ⟨ho, a0, a1, a2, a3, a4, a5, a6, a7⟩ := id hO
  obtain ⟨go, g0, g1, g2, g3, g4, g5, g6, g7⟩ := id hP
  refine zk_S_of R_O "differencesFrom" (by decide) rfl rfl [some (.ref (o + 1)), some (.ref (q + 1)), some (.int (nI t)), none, none] 2 rfl (Nat.le_of_ble_eq_true rfl) (fun p e s m ar below meth c D dA b base C => ?_)
  have L2 : ∀ (n j a : Nat), n + j = 12 → K (some (.int (nI (zo_dL (fun j => zo_sm O P (t * 12 + j)) n j a)))) h → zk_V p l e rm_O_differencesFrom s m ar below meth c 5 D dA b base (MQ below (zk_Q K D dA b base) ar s rm_O_differencesFrom.cells rm_O_differencesFrom.slots (fun q : Nat => base ≤ q)) 0 0 91 [some (.ref (o + 1)), some (.ref (q + 1)), some (.int (nI t)), some (.int (nI a)), some (.int (nI j))] [] h := by
    intro n
    induction n with
    | zero =>
      intro j a hj hK
      rw [zo_dL] at hK
      refine zr_iload C d_O_differencesFrom_91 (n := 93) rfl rfl ?_
      refine zr_bipush C d_O_differencesFrom_93 (n := 95) rfl (v := nI 12) (by decide) ?_
      refine zr_icmp_ge C d_O_differencesFrom_95 (n := 98) rfl (t := 122) (by decide) (fun c1 => ?_) (fun c1 => ?_)
      · refine zr_iload_n C d_O_differencesFrom_122 (n := 123) rfl rfl ?_
        exact zr_iret C d_O_differencesFrom_123 rfl hK (Nat.zero_le _) (Nat.zero_le _)
      · exact absurd (zk_nle (by omega) (by omega) c1) (by omega)
    | succ n ih =>
      intro j a hj hK
      refine zr_iload C d_O_differencesFrom_91 (n := 93) rfl rfl ?_
      refine zr_bipush C d_O_differencesFrom_93 (n := 95) rfl (v := nI 12) (by decide) ?_
      refine zr_icmp_ge C d_O_differencesFrom_95 (n := 98) rfl (t := 122) (by decide) (fun c1 => ?_) (fun c1 => ?_)
      · exact absurd (zk_le (by omega) (by omega) c1) (by omega)
      · refine zr_aload_n C d_O_differencesFrom_98 (n := 99) rfl rfl ?_
        refine zr_aload_n C d_O_differencesFrom_99 (n := 100) rfl rfl ?_
        refine zr_iload_n C d_O_differencesFrom_100 (n := 101) rfl rfl ?_
        refine zr_bipush C d_O_differencesFrom_101 (n := 103) rfl (v := nI 12) (by decide) ?_
        refine zr_imul C d_O_differencesFrom_103 (n := 104) rfl ?_
        refine zr_iload C d_O_differencesFrom_104 (n := 106) rfl rfl ?_
        refine zr_iadd C d_O_differencesFrom_106 (n := 107) rfl ?_
        refine zr_toe (y := nI (t * 12 + j)) (by simp only [pk_mul, nI_add]) ?_
        refine zr_callV2 C k_O_79 d_O_differencesFrom_107 (nx := 110) rfl ho rfl ⟨by decide, by decide⟩ (by decide) ⟨by decide, by decide⟩ (sp_O_isSameMethod l hO hP (by omega) ?_)
        refine zr_if_ne C d_O_differencesFrom_110 (n := 113) rfl (t := 116) (by decide) (fun c2 => ?_) (fun c2 => ?_)
        · replace c2 := zk_bn c2
          refine zr_iinc C d_O_differencesFrom_116 (n := 119) rfl rfl (w := 1) (by decide) (nI_1 j) (by decide) rfl ?_
          refine zr_goto C d_O_differencesFrom_119 (t := 91) (by decide) ?_
          exact ih (j + 1) _ (by omega) (by rw [zo_dL_1 (f := (fun j => zo_sm O P (t * 12 + j))) (j := j) c2] at hK; exact hK)
        · replace c2 := zk_bz c2
          refine zr_iinc C d_O_differencesFrom_113 (n := 116) rfl rfl (w := 1) (by decide) (nI_1 a) (by decide) rfl ?_
          refine zr_iinc C d_O_differencesFrom_116 (n := 119) rfl rfl (w := 1) (by decide) (nI_1 j) (by decide) rfl ?_
          refine zr_goto C d_O_differencesFrom_119 (t := 91) (by decide) ?_
          exact ih (j + 1) _ (by omega) (by rw [zo_dL_0 (f := (fun j => zo_sm O P (t * 12 + j))) (j := j) c2] at hK; exact hK)
  have L1 : ∀ (n j a : Nat), n + j = 4 → K (some (.int (nI (zo_dL (fun j => zo_sm O P (t * 12 + j)) 12 0 (zo_dL (fun j => zo_sf O P (t * 4 + j)) n j a))))) h → zk_V p l e rm_O_differencesFrom s m ar below meth c 5 D dA b base (MQ below (zk_Q K D dA b base) ar s rm_O_differencesFrom.cells rm_O_differencesFrom.slots (fun q : Nat => base ≤ q)) 0 0 59 [some (.ref (o + 1)), some (.ref (q + 1)), some (.int (nI t)), some (.int (nI a)), some (.int (nI j))] [] h := by
    intro n
    induction n with
    | zero =>
      intro j a hj hK
      rw [zo_dL] at hK
      refine zr_iload C d_O_differencesFrom_59 (n := 61) rfl rfl ?_
      refine zr_iconst C d_O_differencesFrom_61 (n := 62) rfl (v := nI 4) (by decide) ?_
      refine zr_icmp_ge C d_O_differencesFrom_62 (n := 65) rfl (t := 88) (by decide) (fun c1 => ?_) (fun c1 => ?_)
      · refine zr_iconst C d_O_differencesFrom_88 (n := 89) rfl (v := nI 0) (by decide) ?_
        refine zr_istore C d_O_differencesFrom_89 (n := 91) rfl (by decide) rfl ?_
        exact L2 12 0 a rfl hK
      · exact absurd (zk_nle (by omega) (by omega) c1) (by omega)
    | succ n ih =>
      intro j a hj hK
      refine zr_iload C d_O_differencesFrom_59 (n := 61) rfl rfl ?_
      refine zr_iconst C d_O_differencesFrom_61 (n := 62) rfl (v := nI 4) (by decide) ?_
      refine zr_icmp_ge C d_O_differencesFrom_62 (n := 65) rfl (t := 88) (by decide) (fun c1 => ?_) (fun c1 => ?_)
      · exact absurd (zk_le (by omega) (by omega) c1) (by omega)
      · refine zr_aload_n C d_O_differencesFrom_65 (n := 66) rfl rfl ?_
        refine zr_aload_n C d_O_differencesFrom_66 (n := 67) rfl rfl ?_
        refine zr_iload_n C d_O_differencesFrom_67 (n := 68) rfl rfl ?_
        refine zr_iconst C d_O_differencesFrom_68 (n := 69) rfl (v := nI 4) (by decide) ?_
        refine zr_imul C d_O_differencesFrom_69 (n := 70) rfl ?_
        refine zr_iload C d_O_differencesFrom_70 (n := 72) rfl rfl ?_
        refine zr_iadd C d_O_differencesFrom_72 (n := 73) rfl ?_
        refine zr_toe (y := nI (t * 4 + j)) (by simp only [pk_mul, nI_add]) ?_
        refine zr_callV2 C k_O_75 d_O_differencesFrom_73 (nx := 76) rfl ho rfl ⟨by decide, by decide⟩ (by decide) ⟨by decide, by decide⟩ (sp_O_isSameField l hO hP (by omega) ?_)
        refine zr_if_ne C d_O_differencesFrom_76 (n := 79) rfl (t := 82) (by decide) (fun c2 => ?_) (fun c2 => ?_)
        · replace c2 := zk_bn c2
          refine zr_iinc C d_O_differencesFrom_82 (n := 85) rfl rfl (w := 1) (by decide) (nI_1 j) (by decide) rfl ?_
          refine zr_goto C d_O_differencesFrom_85 (t := 59) (by decide) ?_
          exact ih (j + 1) _ (by omega) (by rw [zo_dL_1 (f := (fun j => zo_sf O P (t * 4 + j))) (j := j) c2] at hK; exact hK)
        · replace c2 := zk_bz c2
          refine zr_iinc C d_O_differencesFrom_79 (n := 82) rfl rfl (w := 1) (by decide) (nI_1 a) (by decide) rfl ?_
          refine zr_iinc C d_O_differencesFrom_82 (n := 85) rfl rfl (w := 1) (by decide) (nI_1 j) (by decide) rfl ?_
          refine zr_goto C d_O_differencesFrom_85 (t := 59) (by decide) ?_
          exact ih (j + 1) _ (by omega) (by rw [zo_dL_0 (f := (fun j => zo_sf O P (t * 4 + j))) (j := j) c2] at hK; exact hK)
  refine zr_iconst C d_O_differencesFrom_0 (n := 1) rfl (v := nI 0) (by decide) ?_
  refine zr_istore_n C d_O_differencesFrom_1 (n := 2) rfl (by decide) rfl ?_
  refine zr_aload_n C d_O_differencesFrom_2 (n := 3) rfl rfl ?_
  refine zr_get C f_O_9 d_O_differencesFrom_3 (n := 6) rfl ho rfl ?_
  refine zr_iload_n C d_O_differencesFrom_6 (n := 7) rfl rfl ?_
  refine zr_ialdN C d_O_differencesFrom_7 (n := 8) rfl a0 rfl (by omega) (by decide) ?_
  refine zr_aload_n C d_O_differencesFrom_8 (n := 9) rfl rfl ?_
  refine zr_get C f_O_9 d_O_differencesFrom_9 (n := 12) rfl go rfl ?_
  refine zr_iload_n C d_O_differencesFrom_12 (n := 13) rfl rfl ?_
  refine zr_ialdN C d_O_differencesFrom_13 (n := 14) rfl g0 rfl (by omega) (by decide) ?_
  refine zr_icmp_eq C d_O_differencesFrom_14 (n := 17) rfl (t := 20) (by decide) (fun c1 => ?_) (fun c1 => ?_)
  · refine zr_aload_n C d_O_differencesFrom_20 (n := 21) rfl rfl ?_
    refine zr_get C f_O_15 d_O_differencesFrom_21 (n := 24) rfl ho rfl ?_
    refine zr_iload_n C d_O_differencesFrom_24 (n := 25) rfl rfl ?_
    refine zr_ialdN C d_O_differencesFrom_25 (n := 26) rfl a1 rfl (by omega) (by decide) ?_
    refine zr_aload_n C d_O_differencesFrom_26 (n := 27) rfl rfl ?_
    refine zr_get C f_O_15 d_O_differencesFrom_27 (n := 30) rfl go rfl ?_
    refine zr_iload_n C d_O_differencesFrom_30 (n := 31) rfl rfl ?_
    refine zr_ialdN C d_O_differencesFrom_31 (n := 32) rfl g1 rfl (by omega) (by decide) ?_
    refine zr_icmp_eq C d_O_differencesFrom_32 (n := 35) rfl (t := 38) (by decide) (fun c2 => ?_) (fun c2 => ?_)
    · refine zr_aload_n C d_O_differencesFrom_38 (n := 39) rfl rfl ?_
      refine zr_get C f_O_18 d_O_differencesFrom_39 (n := 42) rfl ho rfl ?_
      refine zr_iload_n C d_O_differencesFrom_42 (n := 43) rfl rfl ?_
      refine zr_ialdN C d_O_differencesFrom_43 (n := 44) rfl a2 rfl (by omega) (by decide) ?_
      refine zr_aload_n C d_O_differencesFrom_44 (n := 45) rfl rfl ?_
      refine zr_get C f_O_18 d_O_differencesFrom_45 (n := 48) rfl go rfl ?_
      refine zr_iload_n C d_O_differencesFrom_48 (n := 49) rfl rfl ?_
      refine zr_ialdN C d_O_differencesFrom_49 (n := 50) rfl g2 rfl (by omega) (by decide) ?_
      refine zr_icmp_eq C d_O_differencesFrom_50 (n := 53) rfl (t := 56) (by decide) (fun c3 => ?_) (fun c3 => ?_)
      · refine zr_iconst C d_O_differencesFrom_56 (n := 57) rfl (v := nI 0) (by decide) ?_
        refine zr_istore C d_O_differencesFrom_57 (n := 59) rfl (by decide) rfl ?_
        exact L1 4 0 _ rfl (by simp only [zo_df, zo_d3, c1, c2, c3, if_true, if_false] at hK; exact hK)
      · refine zr_iinc C d_O_differencesFrom_53 (n := 56) rfl rfl (w := 1) (by decide) (nI_1 _) (by decide) rfl ?_
        refine zr_iconst C d_O_differencesFrom_56 (n := 57) rfl (v := nI 0) (by decide) ?_
        refine zr_istore C d_O_differencesFrom_57 (n := 59) rfl (by decide) rfl ?_
        exact L1 4 0 _ rfl (by simp only [zo_df, zo_d3, c1, c2, c3, if_true, if_false] at hK; exact hK)
    · refine zr_iinc C d_O_differencesFrom_35 (n := 38) rfl rfl (w := 1) (by decide) (nI_1 _) (by decide) rfl ?_
      refine zr_aload_n C d_O_differencesFrom_38 (n := 39) rfl rfl ?_
      refine zr_get C f_O_18 d_O_differencesFrom_39 (n := 42) rfl ho rfl ?_
      refine zr_iload_n C d_O_differencesFrom_42 (n := 43) rfl rfl ?_
      refine zr_ialdN C d_O_differencesFrom_43 (n := 44) rfl a2 rfl (by omega) (by decide) ?_
      refine zr_aload_n C d_O_differencesFrom_44 (n := 45) rfl rfl ?_
      refine zr_get C f_O_18 d_O_differencesFrom_45 (n := 48) rfl go rfl ?_
      refine zr_iload_n C d_O_differencesFrom_48 (n := 49) rfl rfl ?_
      refine zr_ialdN C d_O_differencesFrom_49 (n := 50) rfl g2 rfl (by omega) (by decide) ?_
      refine zr_icmp_eq C d_O_differencesFrom_50 (n := 53) rfl (t := 56) (by decide) (fun c4 => ?_) (fun c4 => ?_)
      · refine zr_iconst C d_O_differencesFrom_56 (n := 57) rfl (v := nI 0) (by decide) ?_
        refine zr_istore C d_O_differencesFrom_57 (n := 59) rfl (by decide) rfl ?_
        exact L1 4 0 _ rfl (by simp only [zo_df, zo_d3, c1, c2, c4, if_true, if_false] at hK; exact hK)
      · refine zr_iinc C d_O_differencesFrom_53 (n := 56) rfl rfl (w := 1) (by decide) (nI_1 _) (by decide) rfl ?_
        refine zr_iconst C d_O_differencesFrom_56 (n := 57) rfl (v := nI 0) (by decide) ?_
        refine zr_istore C d_O_differencesFrom_57 (n := 59) rfl (by decide) rfl ?_
        exact L1 4 0 _ rfl (by simp only [zo_df, zo_d3, c1, c2, c4, if_true, if_false] at hK; exact hK)
  · refine zr_iinc C d_O_differencesFrom_17 (n := 20) rfl rfl (w := 1) (by decide) (nI_1 _) (by decide) rfl ?_
    refine zr_aload_n C d_O_differencesFrom_20 (n := 21) rfl rfl ?_
    refine zr_get C f_O_15 d_O_differencesFrom_21 (n := 24) rfl ho rfl ?_
    refine zr_iload_n C d_O_differencesFrom_24 (n := 25) rfl rfl ?_
    refine zr_ialdN C d_O_differencesFrom_25 (n := 26) rfl a1 rfl (by omega) (by decide) ?_
    refine zr_aload_n C d_O_differencesFrom_26 (n := 27) rfl rfl ?_
    refine zr_get C f_O_15 d_O_differencesFrom_27 (n := 30) rfl go rfl ?_
    refine zr_iload_n C d_O_differencesFrom_30 (n := 31) rfl rfl ?_
    refine zr_ialdN C d_O_differencesFrom_31 (n := 32) rfl g1 rfl (by omega) (by decide) ?_
    refine zr_icmp_eq C d_O_differencesFrom_32 (n := 35) rfl (t := 38) (by decide) (fun c5 => ?_) (fun c5 => ?_)
    · refine zr_aload_n C d_O_differencesFrom_38 (n := 39) rfl rfl ?_
      refine zr_get C f_O_18 d_O_differencesFrom_39 (n := 42) rfl ho rfl ?_
      refine zr_iload_n C d_O_differencesFrom_42 (n := 43) rfl rfl ?_
      refine zr_ialdN C d_O_differencesFrom_43 (n := 44) rfl a2 rfl (by omega) (by decide) ?_
      refine zr_aload_n C d_O_differencesFrom_44 (n := 45) rfl rfl ?_
      refine zr_get C f_O_18 d_O_differencesFrom_45 (n := 48) rfl go rfl ?_
      refine zr_iload_n C d_O_differencesFrom_48 (n := 49) rfl rfl ?_
      refine zr_ialdN C d_O_differencesFrom_49 (n := 50) rfl g2 rfl (by omega) (by decide) ?_
      refine zr_icmp_eq C d_O_differencesFrom_50 (n := 53) rfl (t := 56) (by decide) (fun c6 => ?_) (fun c6 => ?_)
      · refine zr_iconst C d_O_differencesFrom_56 (n := 57) rfl (v := nI 0) (by decide) ?_
        refine zr_istore C d_O_differencesFrom_57 (n := 59) rfl (by decide) rfl ?_
        exact L1 4 0 _ rfl (by simp only [zo_df, zo_d3, c1, c5, c6, if_true, if_false] at hK; exact hK)
      · refine zr_iinc C d_O_differencesFrom_53 (n := 56) rfl rfl (w := 1) (by decide) (nI_1 _) (by decide) rfl ?_
        refine zr_iconst C d_O_differencesFrom_56 (n := 57) rfl (v := nI 0) (by decide) ?_
        refine zr_istore C d_O_differencesFrom_57 (n := 59) rfl (by decide) rfl ?_
        exact L1 4 0 _ rfl (by simp only [zo_df, zo_d3, c1, c5, c6, if_true, if_false] at hK; exact hK)
    · refine zr_iinc C d_O_differencesFrom_35 (n := 38) rfl rfl (w := 1) (by decide) (nI_1 _) (by decide) rfl ?_
      refine zr_aload_n C d_O_differencesFrom_38 (n := 39) rfl rfl ?_
      refine zr_get C f_O_18 d_O_differencesFrom_39 (n := 42) rfl ho rfl ?_
      refine zr_iload_n C d_O_differencesFrom_42 (n := 43) rfl rfl ?_
      refine zr_ialdN C d_O_differencesFrom_43 (n := 44) rfl a2 rfl (by omega) (by decide) ?_
      refine zr_aload_n C d_O_differencesFrom_44 (n := 45) rfl rfl ?_
      refine zr_get C f_O_18 d_O_differencesFrom_45 (n := 48) rfl go rfl ?_
      refine zr_iload_n C d_O_differencesFrom_48 (n := 49) rfl rfl ?_
      refine zr_ialdN C d_O_differencesFrom_49 (n := 50) rfl g2 rfl (by omega) (by decide) ?_
      refine zr_icmp_eq C d_O_differencesFrom_50 (n := 53) rfl (t := 56) (by decide) (fun c7 => ?_) (fun c7 => ?_)
      · refine zr_iconst C d_O_differencesFrom_56 (n := 57) rfl (v := nI 0) (by decide) ?_
        refine zr_istore C d_O_differencesFrom_57 (n := 59) rfl (by decide) rfl ?_
        exact L1 4 0 _ rfl (by simp only [zo_df, zo_d3, c1, c5, c7, if_true, if_false] at hK; exact hK)
      · refine zr_iinc C d_O_differencesFrom_53 (n := 56) rfl rfl (w := 1) (by decide) (nI_1 _) (by decide) rfl ?_
        refine zr_iconst C d_O_differencesFrom_56 (n := 57) rfl (v := nI 0) (by decide) ?_
        refine zr_istore C d_O_differencesFrom_57 (n := 59) rfl (by decide) rfl ?_
        exact L1 4 0 _ rfl (by simp only [zo_df, zo_d3, c1, c5, c7, if_true, if_false] at hK; exact hK)
end
section
def zb_l (B : Nat → Int32) : List Value := [.int (B 0), .int (B 1), .int (B 2), .int (B 3), .int (B 4), .int (B 5), .int (B 6), .int (B 7), .int (B 8)]
abbrev zb_c (B : Nat → Int32) : zk_E := .inr (0, zb_l B)
abbrev zu_c (k t nm : Nat) (a : Int32) : zk_E := .inr (2, [.int (nI k), .int (nI t), .int (nI nm), .int a])
theorem zk_fb (c : Bool) : fits .boolean (.int (zk_b c)) = true := by cases c <;> decide
theorem zk_nm1 {j : Nat} (hj : j < 2147483648) : ¬ nI j = -1 := fun h => by
  have h2 := congrArg Int32.toInt h
  rw [nI_toInt hj] at h2
  have h3 : (-1 : Int32).toInt = -1 := by decide
  omega
def zb_pl (r : Int32) : Option Nat := if r = -1 then none else some r.toNatClampNeg
theorem zb_pl_n : zb_pl (-1) = none := if_pos rfl
theorem zb_pl_s {j : Nat} (hj : j < 2147483648) : zb_pl (nI j) = some j := by rw [zb_pl, if_neg (zk_nm1 hj), nI_clamp hj]
theorem zo_ffL_pl {f : Nat → Int32} {x z : Int32} {P : Int32 → Prop} (hz : P z) (hf : ∀ i, P (f i)) : ∀ n i, P (zo_ffL f x z n i)
  | 0, _ => hz
  | n + 1, i => by
    rw [zo_ffL]
    by_cases h : zk_bit x i = true ∧ ¬ f i = -1
    · rw [if_pos h]; exact hf i
    · rw [if_neg h]; exact zo_ffL_pl hz hf n (i + 1)
/-- where findField answers -/
theorem zo_ffL_pl2 {f : Nat → Int32} {x z : Int32} {P : Int32 → Prop} (hz : P z) : ∀ n i, (∀ k, k < n + i → P (f k)) → P (zo_ffL f x z n i)
  | 0, _, _ => hz
  | n + 1, i, hf => by
    rw [zo_ffL]
    by_cases h : zk_bit x i = true ∧ ¬ f i = -1
    · rw [if_pos h]; exact hf i (by omega)
    · rw [if_neg h]; exact zo_ffL_pl2 hz n (i + 1) (fun k hk => hf k (by omega))
theorem zo_ff_pl {O : zo_O} (hw : zo_wf O) {nm : Nat} (hnm : nm < 4) {kd : Int32} : ∀ d t, t < 6 → zo_ff O nm kd d t = -1 ∨ ∃ j, j < 24 ∧ zo_ff O nm kd d t = nI j
  | 0, t, _ => Or.inl rfl
  | d + 1, t, ht => by
    rw [zo_ff]
    by_cases h : ¬ O 3 (t * 4 + nm) = -1 ∧ (kd = -1 ∨ O 4 (t * 4 + nm) = kd)
    · rw [if_pos h]; exact Or.inr ⟨t * 4 + nm, by omega, rfl⟩
    · rw [if_neg h]
      refine zo_ffL_pl2 (P := fun r => r = -1 ∨ ∃ j, j < 24 ∧ r = nI j) ?_ t 0 (fun k hk => zo_ff_pl hw hnm d k (by omega))
      by_cases h6 : O 1 t = nI 6
      · rw [if_pos h6]; exact Or.inl rfl
      · rw [if_neg h6]
        obtain ⟨s, hs, e⟩ := (hw t ht).resolve_left h6
        rw [e, nI_clamp (by omega)]
        exact zo_ff_pl hw hnm d s (by omega)
theorem zo_mi_pl {O : zo_O} {nm pa : Nat} (hnm : nm < 3) (hpa : pa < 4) {an x : Int32} : ∀ n, n ≤ 6 → zo_mi O nm pa an x n = -1 ∨ ∃ j, j < 72 ∧ zo_mi O nm pa an x n = nI j ∧ j % 4 = pa
  | 0, _ => Or.inl rfl
  | n + 1, hn => by
    rw [zo_mi]
    by_cases h : zk_bit x n = true ∧ zo_hf O n (nI 1) = true ∧ zo_ma O (n * 12 + nm * 4 + pa) an = true
    · rw [if_pos h]; exact Or.inr ⟨n * 12 + nm * 4 + pa, by omega, rfl, by omega⟩
    · rw [if_neg h]; exact zo_mi_pl hnm hpa n (by omega)
theorem zo_mc_pl {O : zo_O} (hw : zo_wf O) {nm pa : Nat} (hnm : nm < 3) (hpa : pa < 4) {an z : Int32} (hz : z = -1 ∨ ∃ j, j < 72 ∧ z = nI j ∧ j % 4 = pa) : ∀ n hd, hd ≤ 6 → zo_mc O nm pa an z n hd = -1 ∨ ∃ j, j < 72 ∧ zo_mc O nm pa an z n hd = nI j ∧ j % 4 = pa
  | 0, _, _ => hz
  | n + 1, hd, hhd => by
    by_cases h6 : hd = 6
    · subst h6; rw [zo_mc_end]; exact hz
    · rw [zo_mc, if_neg h6]
      by_cases h : zo_ma O (hd * 12 + nm * 4 + pa) an = true
      · rw [if_pos h]; exact Or.inr ⟨hd * 12 + nm * 4 + pa, by omega, rfl, by omega⟩
      · rw [if_neg h]
        obtain ⟨s, hs, e⟩ := zo_wf_up hw (t := hd) (by omega)
        rw [e, nI_clamp (by omega)]
        exact zo_mc_pl hw hnm hpa hz n s hs
theorem zo_fm_pl {O : zo_O} (hw : zo_wf O) {t nm pa : Nat} (ht : t < 6) (hnm : nm < 3) (hpa : pa < 4) {an : Int32} : zo_fm O t nm pa an = -1 ∨ ∃ j, j < 72 ∧ zo_fm O t nm pa an = nI j ∧ j % 4 = pa := zo_mc_pl hw hnm hpa (zo_mi_pl hnm hpa 6 (Nat.le_refl 6)) 6 t (by omega)
def zb_nz (x y : Int32) : Bool := decide (¬ x &&& y = 0)
/-- bindField, from the place on -/
def zb_f (O : zo_O) (k : Nat) (B : Nat → Int32) (r : Option Nat) : Int32 × (Nat → Int32) := match r with
  | none => (-4, B)
  | some j => if zb_nz (O 3 j) (nI 8) = true then (-4, B) else if k = 1 ∧ zb_nz (O 3 j) (nI 4) = true then (-5, B) else (nI 0, upd (upd (upd (upd B 2 (zk_b (zb_nz (O 3 j) (nI 16)))) 3 (O 4 j)) 4 (O 5 j)) 5 (zk_b (zb_nz (O 3 j) (nI 1))))
def zb_m (O : zo_O) (k j : Nat) (B : Nat → Int32) : Int32 × (Nat → Int32) := if k = 3 ∧ zb_nz (O 6 j) (nI 1) = false then (-5, upd B 5 (zk_b (zb_nz (O 6 j) (nI 1)))) else (nI 0, upd (upd (upd (upd B 5 (zk_b (zb_nz (O 6 j) (nI 1)))) 6 (nI (j % 4))) 7 (O 7 j)) 8 (nI (j / 12)))
def zb_cL (O : zo_O) (k t nm : Nat) (B : Nat → Int32) : Nat → Nat → Int32 × (Nat → Int32)
  | 0, _ => (-4, B)
  | n + 1, p => match zb_pl (zo_fm O t nm p (-1)) with
    | none => zb_cL O k t nm B n (p + 1)
    | some j => if zb_nz (O 6 j) (nI 8) = true then zb_cL O k t nm B n (p + 1) else zb_m O k j B
def zb_o (O : zo_O) (t : Nat) (B : Nat → Int32) (r : Option Nat) : Int32 × (Nat → Int32) := if zo_hf O t (nI 4) = true then (-5, B) else match r with
  | none => (-4, B)
  | some j => if zb_nz (O 6 j) (nI 8) = true then (-4, B) else if zb_nz (O 6 j) (nI 5) = true then (-5, B) else (nI 0, upd B 7 (O 7 j))
theorem zb_m_no {O : zo_O} {k j : Nat} {B : Nat → Int32} (h1 : k = 3) (h2 : zb_nz (O 6 j) (nI 1) = false) : zb_m O k j B = (-5, upd B 5 (zk_b (zb_nz (O 6 j) (nI 1)))) := by rw [zb_m, if_pos ⟨h1, h2⟩]
theorem zb_m_yes {O : zo_O} {k j : Nat} {B : Nat → Int32} (h : ¬ (k = 3 ∧ zb_nz (O 6 j) (nI 1) = false)) : zb_m O k j B = (nI 0, upd (upd (upd (upd B 5 (zk_b (zb_nz (O 6 j) (nI 1)))) 6 (nI (j % 4))) 7 (O 7 j)) 8 (nI (j / 12))) := by rw [zb_m, if_neg h]
theorem zb_f_n {O : zo_O} {k : Nat} {B : Nat → Int32} : zb_f O k B none = (-4, B) := rfl
theorem zb_f_h {O : zo_O} {k j : Nat} {B : Nat → Int32} (h : zb_nz (O 3 j) (nI 8) = true) : zb_f O k B (some j) = (-4, B) := by rw [zb_f, if_pos h]
theorem zb_f_x {O : zo_O} {k j : Nat} {B : Nat → Int32} (h : zb_nz (O 3 j) (nI 8) = false) (h2 : k = 1 ∧ zb_nz (O 3 j) (nI 4) = true) : zb_f O k B (some j) = (-5, B) := by rw [zb_f, if_neg (by rw [h]; decide), if_pos h2]
theorem zb_f_y {O : zo_O} {k j : Nat} {B : Nat → Int32} (h : zb_nz (O 3 j) (nI 8) = false) (h2 : ¬ (k = 1 ∧ zb_nz (O 3 j) (nI 4) = true)) : zb_f O k B (some j) = (nI 0, upd (upd (upd (upd B 2 (zk_b (zb_nz (O 3 j) (nI 16)))) 3 (O 4 j)) 4 (O 5 j)) 5 (zk_b (zb_nz (O 3 j) (nI 1)))) := by rw [zb_f, if_neg (by rw [h]; decide), if_neg h2]
theorem zb_o_x {O : zo_O} {t : Nat} {B : Nat → Int32} {r : Option Nat} (h : zo_hf O t (nI 4) = true) : zb_o O t B r = (-5, B) := by
  unfold zb_o
  rw [if_pos h]
theorem zb_o_n {O : zo_O} {t : Nat} {B : Nat → Int32} (h : zo_hf O t (nI 4) = false) : zb_o O t B none = (-4, B) := by rw [zb_o, if_neg (by rw [h]; decide)]
theorem zb_o_h {O : zo_O} {t j : Nat} {B : Nat → Int32} (h : zo_hf O t (nI 4) = false) (h1 : zb_nz (O 6 j) (nI 8) = true) : zb_o O t B (some j) = (-4, B) := by
  rw [zb_o, if_neg (by rw [h]; decide)]
  show (if _ then _ else _) = _
  rw [if_pos h1]
theorem zb_o_y {O : zo_O} {t j : Nat} {B : Nat → Int32} (h : zo_hf O t (nI 4) = false) (h1 : zb_nz (O 6 j) (nI 8) = false) : zb_o O t B (some j) = if zb_nz (O 6 j) (nI 5) = true then (-5, B) else (nI 0, upd B 7 (O 7 j)) := by
  rw [zb_o, if_neg (by rw [h]; decide)]
  show (if _ then _ else _) = _
  rw [if_neg (by rw [h1]; decide)]
theorem zb_cL_n {O : zo_O} {k t nm n p : Nat} {B : Nat → Int32} (h : zb_pl (zo_fm O t nm p (-1)) = none) : zb_cL O k t nm B (n + 1) p = zb_cL O k t nm B n (p + 1) := by rw [zb_cL, h]
theorem zb_cL_h {O : zo_O} {k t nm n p j : Nat} {B : Nat → Int32} (h : zb_pl (zo_fm O t nm p (-1)) = some j) (h1 : zb_nz (O 6 j) (nI 8) = true) : zb_cL O k t nm B (n + 1) p = zb_cL O k t nm B n (p + 1) := by
  rw [zb_cL, h]
  show (if _ then _ else _) = _
  rw [if_pos h1]
theorem zb_cL_y {O : zo_O} {k t nm n p j : Nat} {B : Nat → Int32} (h : zb_pl (zo_fm O t nm p (-1)) = some j) (h1 : zb_nz (O 6 j) (nI 8) = false) : zb_cL O k t nm B (n + 1) p = zb_m O k j B := by
  rw [zb_cL, h]
  show (if _ then _ else _) = _
  rw [if_neg (by rw [h1]; decide)]
theorem zb_nzt {x y : Int32} (h : ¬ x &&& y = 0) : zb_nz x y = true := decide_eq_true h
theorem zb_nzf {x y : Int32} (h : x &&& y = 0) : zb_nz x y = false := decide_eq_false (fun q => q h)
abbrev rm_B_bindMethod : Room := { frames := 0, cells := 0, slots := 0, locals := 0 }
set_option maxHeartbeats 4000000 in
set_option maxRecDepth 100000 in
/-- bindMethod -/
theorem sp_B_bindMethod (l : Launch) {h : zk_H} {i u o : Nat} {B : Nat → Int32} {k t nm : Nat} {a : Int32} {O : zo_O} (hB : h[i]? = some (zb_c B)) (hU : h[u]? = some (zu_c k t nm a)) (hO : zo_at h o O) (hiu : i ≠ u) (hio : i < o ∨ o + 8 < i) (ht : t < 6) (hk : k < 7) {j : Nat} (hj : j < 72) {K : Option Value → zk_H → Prop} (hK : K (some (.int (zb_m O k j B).1)) (h.set i (zb_c (zb_m O k j B).2))) : zk_S l y_B_bindMethod b_B_bindMethod 4 (some .int) rm_B_bindMethod [.ref (i + 1), .ref (u + 1), .ref (o + 1), .int (nI j)] h K := by
  obtain ⟨ho, a0, a1, a2, a3, a4, a5, a6, a7⟩ := id hO
  refine zk_S_of R_B "bindMethod" (by decide) rfl rfl [some (.ref (i + 1)), some (.ref (u + 1)), some (.ref (o + 1)), some (.int (nI j))] 0 rfl (Nat.le_of_ble_eq_true rfl) (fun p e s m ar below meth c D dA b base C => ?_)
  have J : zk_V p l e rm_B_bindMethod s m ar below meth c 4 D dA b base (MQ below (zk_Q K D dA b base) ar s rm_B_bindMethod.cells rm_B_bindMethod.slots (fun q : Nat => base ≤ q)) 0 0 17 [some (.ref (i + 1)), some (.ref (u + 1)), some (.ref (o + 1)), some (.int (nI j))] [.int (zk_b (zb_nz (O 6 j) (nI 1))), .ref (i + 1)] h := by
    refine zr_put C f_B_80 Y_B rfl rfl d_B_bindMethod_17 (n := 20) rfl hB (Nat.le_of_ble_eq_true rfl) (fun _ _ => zk_nb _) (fun _ _ => zk_fb _) ?_
    refine zr_aload_n C d_B_bindMethod_20 (n := 21) rfl rfl ?_
    refine zr_getN C f_B_39 d_B_bindMethod_21 (n := 24) rfl (zk_g1 (by omega) hU) rfl ?_
    refine zr_iconst C d_B_bindMethod_24 (n := 25) rfl (v := nI 3) (by decide) ?_
    refine zr_icmp_ne C d_B_bindMethod_25 (n := 28) rfl (t := 38) (by decide) (fun c1 => ?_) (fun c1 => ?_)
    · replace c1 := zk_ne (by omega) (by omega) c1
      refine zr_aload_n C d_B_bindMethod_38 (n := 39) rfl rfl ?_
      refine zr_iload_n C d_B_bindMethod_39 (n := 40) rfl rfl ?_
      refine zr_iconst C d_B_bindMethod_40 (n := 41) rfl (v := nI 4) (by decide) ?_
      refine zr_irem C d_B_bindMethod_41 (n := 42) rfl (by decide) ?_
      refine zr_toe (y := nI (j % 4)) (pk_rem (by omega) (by decide) (by decide)) ?_
      refine zr_put C f_B_97 Y_B rfl rfl d_B_bindMethod_42 (n := 45) rfl (zk_g0 hB) (Nat.le_of_ble_eq_true rfl) (fun _ _ => rfl) (fun _ _ => rfl) ?_
      rw [zk_sset]
      refine zr_aload_n C d_B_bindMethod_45 (n := 46) rfl rfl ?_
      refine zr_aload_n C d_B_bindMethod_46 (n := 47) rfl rfl ?_
      refine zr_getN C f_B_100 d_B_bindMethod_47 (n := 50) rfl (zk_g1 (by omega) ho) rfl ?_
      refine zr_iload_n C d_B_bindMethod_50 (n := 51) rfl rfl ?_
      refine zr_ialdN C d_B_bindMethod_51 (n := 52) rfl (zk_g1 (by omega) a7) rfl (by omega) (by decide) ?_
      refine zr_put C f_B_103 Y_B rfl rfl d_B_bindMethod_52 (n := 55) rfl (zk_g0 hB) (Nat.le_of_ble_eq_true rfl) (fun _ _ => rfl) (fun _ _ => rfl) ?_
      rw [zk_sset]
      refine zr_aload_n C d_B_bindMethod_55 (n := 56) rfl rfl ?_
      refine zr_iload_n C d_B_bindMethod_56 (n := 57) rfl rfl ?_
      refine zr_bipush C d_B_bindMethod_57 (n := 59) rfl (v := nI 12) (by decide) ?_
      refine zr_idiv C d_B_bindMethod_59 (n := 60) rfl (by decide) ?_
      refine zr_toe (y := nI (j / 12)) (pk_div (by omega) (by decide) (by decide)) ?_
      refine zr_put C f_B_106 Y_B rfl rfl d_B_bindMethod_60 (n := 63) rfl (zk_g0 hB) (Nat.le_of_ble_eq_true rfl) (fun _ _ => rfl) (fun _ _ => rfl) ?_
      rw [zk_sset]
      refine zr_iconst C d_B_bindMethod_63 (n := 64) rfl (v := nI 0) (by decide) ?_
      exact zr_iret C d_B_bindMethod_64 rfl (by rw [zb_m_yes (by simp [c1])] at hK; exact hK) (Nat.zero_le _) (Nat.zero_le _)
    · replace c1 := zk_eq (by omega) (by omega) c1
      refine zr_aload_n C d_B_bindMethod_28 (n := 29) rfl rfl ?_
      refine zr_get C f_B_80 d_B_bindMethod_29 (n := 32) rfl (zk_g0 hB) rfl ?_
      refine zr_if_ne C d_B_bindMethod_32 (n := 35) rfl (t := 38) (by decide) (fun c2 => ?_) (fun c2 => ?_)
      · replace c2 := zk_bn c2
        refine zr_aload_n C d_B_bindMethod_38 (n := 39) rfl rfl ?_
        refine zr_iload_n C d_B_bindMethod_39 (n := 40) rfl rfl ?_
        refine zr_iconst C d_B_bindMethod_40 (n := 41) rfl (v := nI 4) (by decide) ?_
        refine zr_irem C d_B_bindMethod_41 (n := 42) rfl (by decide) ?_
        refine zr_toe (y := nI (j % 4)) (pk_rem (by omega) (by decide) (by decide)) ?_
        refine zr_put C f_B_97 Y_B rfl rfl d_B_bindMethod_42 (n := 45) rfl (zk_g0 hB) (Nat.le_of_ble_eq_true rfl) (fun _ _ => rfl) (fun _ _ => rfl) ?_
        rw [zk_sset]
        refine zr_aload_n C d_B_bindMethod_45 (n := 46) rfl rfl ?_
        refine zr_aload_n C d_B_bindMethod_46 (n := 47) rfl rfl ?_
        refine zr_getN C f_B_100 d_B_bindMethod_47 (n := 50) rfl (zk_g1 (by omega) ho) rfl ?_
        refine zr_iload_n C d_B_bindMethod_50 (n := 51) rfl rfl ?_
        refine zr_ialdN C d_B_bindMethod_51 (n := 52) rfl (zk_g1 (by omega) a7) rfl (by omega) (by decide) ?_
        refine zr_put C f_B_103 Y_B rfl rfl d_B_bindMethod_52 (n := 55) rfl (zk_g0 hB) (Nat.le_of_ble_eq_true rfl) (fun _ _ => rfl) (fun _ _ => rfl) ?_
        rw [zk_sset]
        refine zr_aload_n C d_B_bindMethod_55 (n := 56) rfl rfl ?_
        refine zr_iload_n C d_B_bindMethod_56 (n := 57) rfl rfl ?_
        refine zr_bipush C d_B_bindMethod_57 (n := 59) rfl (v := nI 12) (by decide) ?_
        refine zr_idiv C d_B_bindMethod_59 (n := 60) rfl (by decide) ?_
        refine zr_toe (y := nI (j / 12)) (pk_div (by omega) (by decide) (by decide)) ?_
        refine zr_put C f_B_106 Y_B rfl rfl d_B_bindMethod_60 (n := 63) rfl (zk_g0 hB) (Nat.le_of_ble_eq_true rfl) (fun _ _ => rfl) (fun _ _ => rfl) ?_
        rw [zk_sset]
        refine zr_iconst C d_B_bindMethod_63 (n := 64) rfl (v := nI 0) (by decide) ?_
        exact zr_iret C d_B_bindMethod_64 rfl (by rw [zb_m_yes (by simp [c1, c2])] at hK; exact hK) (Nat.zero_le _) (Nat.zero_le _)
      · replace c2 := zk_bz c2
        refine zr_bipush C d_B_bindMethod_35 (n := 37) rfl (v := -5) (by decide) ?_
        exact zr_iret C d_B_bindMethod_37 rfl (by rw [zb_m_no c1 c2] at hK; exact hK) (Nat.zero_le _) (Nat.zero_le _)
  refine zr_aload_n C d_B_bindMethod_0 (n := 1) rfl rfl ?_
  refine zr_aload_n C d_B_bindMethod_1 (n := 2) rfl rfl ?_
  refine zr_getN C f_B_90 d_B_bindMethod_2 (n := 5) rfl ho rfl ?_
  refine zr_iload_n C d_B_bindMethod_5 (n := 6) rfl rfl ?_
  refine zr_ialdN C d_B_bindMethod_6 (n := 7) rfl a6 rfl (by omega) (by decide) ?_
  refine zr_iconst C d_B_bindMethod_7 (n := 8) rfl (v := nI 1) (by decide) ?_
  refine zr_iand C d_B_bindMethod_8 (n := 9) rfl ?_
  refine zr_if_eq C d_B_bindMethod_9 (n := 12) rfl (t := 16) (by decide) (fun c3 => ?_) (fun c3 => ?_)
  · replace c3 := zb_nzf c3
    refine zr_iconst C d_B_bindMethod_16 (n := 17) rfl (v := nI 0) (by decide) ?_
    refine zr_toe (y := zk_b (zb_nz (O 6 j) (nI 1))) (by rw [c3]; rfl) ?_
    exact J
  · replace c3 := zb_nzt c3
    refine zr_iconst C d_B_bindMethod_12 (n := 13) rfl (v := nI 1) (by decide) ?_
    refine zr_goto C d_B_bindMethod_13 (t := 17) (by decide) ?_
    refine zr_toe (y := zk_b (zb_nz (O 6 j) (nI 1))) (by rw [c3]; rfl) ?_
    exact J
end
section
def zb_cc (O : zo_O) (k t nm ag : Nat) (B : Nat → Int32) : Int32 × (Nat → Int32) := zb_cL O k t nm B (if ag = 0 then 1 else 4 - ag) ag
theorem zo_at_set {h : zk_H} {o i : Nat} {O : zo_O} {x : zk_E} (hO : zo_at h o O) (hio : i < o ∨ o + 8 < i) : zo_at (h.set i x) o O := by
  obtain ⟨ho, a0, a1, a2, a3, a4, a5, a6, a7⟩ := hO
  exact ⟨zk_g1 (by omega) ho, zk_g1 (by omega) a0, zk_g1 (by omega) a1, zk_g1 (by omega) a2, zk_g1 (by omega) a3, zk_g1 (by omega) a4, zk_g1 (by omega) a5, zk_g1 (by omega) a6, zk_g1 (by omega) a7⟩
def zb_b1 (O : zo_O) (t : Nat) (B : Nat → Int32) : Nat → Int32 := upd (upd B 2 (nI 0)) 1 (zk_b (zo_hf O t (nI 1)))
def zb_fin (q : Int32 × (Nat → Int32)) : Nat → Int32 := upd q.2 0 q.1
def zb_if (c : Bool) (x y : Int32) : Int32 := if c = true then x else y
def zb_kd (O : zo_O) (k t nm ag : Nat) (B : Nat → Int32) : Int32 × (Nat → Int32) := match k with
  | 0 => zb_f O 0 B (zb_pl (zo_ff O nm (-1) 6 t))
  | 1 => zb_f O 1 B (zb_pl (zo_ff O nm (-1) 6 t))
  | 2 => zb_cc O 2 t nm ag B
  | 3 => zb_cc O 3 t nm ag B
  | 4 => (zb_if (zo_hf O t (nI 3)) (-5) (nI 0), B)
  | 5 => (zb_if (zo_hf O t (nI 4)) (-5) (nI 0), B)
  | _ => zb_o O t B (zb_pl (zo_fm O t nm ag (-1)))
def zb_bind (O : zo_O) (k t nm ag : Nat) (B : Nat → Int32) : Nat → Int32 := if zo_th O t = true ∧ zo_hf O t (nI 8) = false then zb_fin (zb_kd O k t nm ag (zb_b1 O t B)) else upd (zb_b1 O t B) 0 (-3)
theorem zb_bind_no {O : zo_O} {k t nm ag : Nat} {B : Nat → Int32} (h : ¬ (zo_th O t = true ∧ zo_hf O t (nI 8) = false)) : zb_bind O k t nm ag B = upd (zb_b1 O t B) 0 (-3) := by rw [zb_bind, if_neg h]
theorem zb_bind_ok {O : zo_O} {k t nm ag : Nat} {B : Nat → Int32} (h : zo_th O t = true ∧ zo_hf O t (nI 8) = false) : zb_bind O k t nm ag B = zb_fin (zb_kd O k t nm ag (zb_b1 O t B)) := by rw [zb_bind, if_pos h]
abbrev rm_B_bindField : Room := { frames := 9, cells := 0, slots := 0, locals := 242 }
set_option maxHeartbeats 4000000 in
set_option maxRecDepth 100000 in
/-- bindField -/
theorem sp_B_bindField (l : Launch) {h : zk_H} {i u o : Nat} {B : Nat → Int32} {k t nm : Nat} {a : Int32} {O : zo_O} (hB : h[i]? = some (zb_c B)) (hU : h[u]? = some (zu_c k t nm a)) (hO : zo_at h o O) (hw : zo_wf O) (hiu : i ≠ u) (hio : i < o ∨ o + 8 < i) (ht : t < 6) (hk : k < 7) (hnm : nm < 4) {K : Option Value → zk_H → Prop} (hK : K (some (.int (zb_f O k B (zb_pl (zo_ff O nm (-1) 6 t))).1)) (h.set i (zb_c (zb_f O k B (zb_pl (zo_ff O nm (-1) 6 t))).2))) : zk_S l y_B_bindField b_B_bindField 5 (some .int) rm_B_bindField [.ref (i + 1), .ref (u + 1), .ref (o + 1)] h K := by
  obtain ⟨ho, a0, a1, a2, a3, a4, a5, a6, a7⟩ := id hO
  refine zk_S_of R_B "bindField" (by decide) rfl rfl [some (.ref (i + 1)), some (.ref (u + 1)), some (.ref (o + 1)), none, none] 2 rfl (Nat.le_of_ble_eq_true rfl) (fun p e s m ar below meth c D dA b base C => ?_)
  rcases zo_ff_pl hw hnm (kd := -1) 6 t ht with e | ⟨j, hj, e⟩
  · refine zr_aload_n C d_B_bindField_0 (n := 1) rfl rfl ?_
    refine zr_aload_n C d_B_bindField_1 (n := 2) rfl rfl ?_
    refine zr_getN C f_B_15 d_B_bindField_2 (n := 5) rfl hU rfl ?_
    refine zr_aload_n C d_B_bindField_5 (n := 6) rfl rfl ?_
    refine zr_getN C f_B_58 d_B_bindField_6 (n := 9) rfl hU rfl ?_
    refine zr_iconst C d_B_bindField_9 (n := 10) rfl (v := -1) (by decide) ?_
    refine zr_callV3 C k_B_61 d_B_bindField_10 (nx := 13) rfl ho rfl ⟨by decide, by decide⟩ (Nat.le_of_ble_eq_true rfl) ⟨by decide, by decide⟩ (sp_O_findField l hO hw ht hnm ?_)
    refine zr_toe (y := -1) e ?_
    refine zr_istore_n C d_B_bindField_13 (n := 14) rfl (by decide) rfl ?_
    refine zr_iload_n C d_B_bindField_14 (n := 15) rfl rfl ?_
    refine zr_iconst C d_B_bindField_15 (n := 16) rfl (v := -1) (by decide) ?_
    refine zr_icmp_eq C d_B_bindField_16 (n := 19) rfl (t := 31) (by decide) (fun c1 => ?_) (fun c1 => ?_)
    · refine zr_bipush C d_B_bindField_31 (n := 33) rfl (v := -4) (by decide) ?_
      rw [e, zb_pl_n, zb_f_n] at hK
      have hK : K (some (.int (-4))) (h.set i (zb_c B)) := hK
      rw [zk_ss hB] at hK
      exact zr_iret C d_B_bindField_33 rfl hK (Nat.zero_le _) (Nat.zero_le _)
    · exact absurd rfl c1
  · refine zr_aload_n C d_B_bindField_0 (n := 1) rfl rfl ?_
    refine zr_aload_n C d_B_bindField_1 (n := 2) rfl rfl ?_
    refine zr_getN C f_B_15 d_B_bindField_2 (n := 5) rfl hU rfl ?_
    refine zr_aload_n C d_B_bindField_5 (n := 6) rfl rfl ?_
    refine zr_getN C f_B_58 d_B_bindField_6 (n := 9) rfl hU rfl ?_
    refine zr_iconst C d_B_bindField_9 (n := 10) rfl (v := -1) (by decide) ?_
    refine zr_callV3 C k_B_61 d_B_bindField_10 (nx := 13) rfl ho rfl ⟨by decide, by decide⟩ (Nat.le_of_ble_eq_true rfl) ⟨by decide, by decide⟩ (sp_O_findField l hO hw ht hnm ?_)
    refine zr_toe (y := nI j) e ?_
    refine zr_istore_n C d_B_bindField_13 (n := 14) rfl (by decide) rfl ?_
    refine zr_iload_n C d_B_bindField_14 (n := 15) rfl rfl ?_
    refine zr_iconst C d_B_bindField_15 (n := 16) rfl (v := -1) (by decide) ?_
    refine zr_icmp_eq C d_B_bindField_16 (n := 19) rfl (t := 31) (by decide) (fun c1 => ?_) (fun c1 => ?_)
    · exact absurd c1 (zk_nm1 (by omega))
    · refine zr_aload_n C d_B_bindField_19 (n := 20) rfl rfl ?_
      refine zr_getN C f_B_65 d_B_bindField_20 (n := 23) rfl ho rfl ?_
      refine zr_iload_n C d_B_bindField_23 (n := 24) rfl rfl ?_
      refine zr_ialdN C d_B_bindField_24 (n := 25) rfl a3 rfl (by omega) (by decide) ?_
      refine zr_bipush C d_B_bindField_25 (n := 27) rfl (v := nI 8) (by decide) ?_
      refine zr_iand C d_B_bindField_27 (n := 28) rfl ?_
      refine zr_if_eq C d_B_bindField_28 (n := 31) rfl (t := 34) (by decide) (fun c2 => ?_) (fun c2 => ?_)
      · replace c2 := zb_nzf c2
        refine zr_aload_n C d_B_bindField_34 (n := 35) rfl rfl ?_
        refine zr_getN C f_B_65 d_B_bindField_35 (n := 38) rfl ho rfl ?_
        refine zr_iload_n C d_B_bindField_38 (n := 39) rfl rfl ?_
        refine zr_ialdN C d_B_bindField_39 (n := 40) rfl a3 rfl (by omega) (by decide) ?_
        refine zr_istore C d_B_bindField_40 (n := 42) rfl (by decide) rfl ?_
        refine zr_aload_n C d_B_bindField_42 (n := 43) rfl rfl ?_
        refine zr_getN C f_B_39 d_B_bindField_43 (n := 46) rfl hU rfl ?_
        refine zr_iconst C d_B_bindField_46 (n := 47) rfl (v := nI 1) (by decide) ?_
        refine zr_icmp_ne C d_B_bindField_47 (n := 50) rfl (t := 60) (by decide) (fun c3 => ?_) (fun c3 => ?_)
        · replace c3 := zk_ne (by omega) (by omega) c3
          refine zr_aload_n C d_B_bindField_60 (n := 61) rfl rfl ?_
          refine zr_iload C d_B_bindField_61 (n := 63) rfl rfl ?_
          refine zr_bipush C d_B_bindField_63 (n := 65) rfl (v := nI 16) (by decide) ?_
          refine zr_iand C d_B_bindField_65 (n := 66) rfl ?_
          refine zr_if_eq C d_B_bindField_66 (n := 69) rfl (t := 73) (by decide) (fun c4 => ?_) (fun c4 => ?_)
          · replace c4 := zb_nzf c4
            refine zr_iconst C d_B_bindField_73 (n := 74) rfl (v := nI 0) (by decide) ?_
            refine zr_toe (y := zk_b (zb_nz (O 3 j) (nI 16))) (by rw [c4]; rfl) ?_
            refine zr_put C f_B_9 Y_B rfl rfl d_B_bindField_74 (n := 77) rfl hB (Nat.le_of_ble_eq_true rfl) (fun _ _ => zk_nb _) (fun _ _ => zk_fb _) ?_
            refine zr_aload_n C d_B_bindField_77 (n := 78) rfl rfl ?_
            refine zr_aload_n C d_B_bindField_78 (n := 79) rfl rfl ?_
            refine zr_getN C f_B_69 d_B_bindField_79 (n := 82) rfl (zk_g1 (by omega) ho) rfl ?_
            refine zr_iload_n C d_B_bindField_82 (n := 83) rfl rfl ?_
            refine zr_ialdN C d_B_bindField_83 (n := 84) rfl (zk_g1 (by omega) a4) rfl (by omega) (by decide) ?_
            refine zr_put C f_B_72 Y_B rfl rfl d_B_bindField_84 (n := 87) rfl (zk_g0 hB) (Nat.le_of_ble_eq_true rfl) (fun _ _ => rfl) (fun _ _ => rfl) ?_
            rw [zk_sset]
            refine zr_aload_n C d_B_bindField_87 (n := 88) rfl rfl ?_
            refine zr_aload_n C d_B_bindField_88 (n := 89) rfl rfl ?_
            refine zr_getN C f_B_74 d_B_bindField_89 (n := 92) rfl (zk_g1 (by omega) ho) rfl ?_
            refine zr_iload_n C d_B_bindField_92 (n := 93) rfl rfl ?_
            refine zr_ialdN C d_B_bindField_93 (n := 94) rfl (zk_g1 (by omega) a5) rfl (by omega) (by decide) ?_
            refine zr_put C f_B_77 Y_B rfl rfl d_B_bindField_94 (n := 97) rfl (zk_g0 hB) (Nat.le_of_ble_eq_true rfl) (fun _ _ => rfl) (fun _ _ => rfl) ?_
            rw [zk_sset]
            refine zr_aload_n C d_B_bindField_97 (n := 98) rfl rfl ?_
            refine zr_iload C d_B_bindField_98 (n := 100) rfl rfl ?_
            refine zr_iconst C d_B_bindField_100 (n := 101) rfl (v := nI 1) (by decide) ?_
            refine zr_iand C d_B_bindField_101 (n := 102) rfl ?_
            refine zr_if_eq C d_B_bindField_102 (n := 105) rfl (t := 109) (by decide) (fun c5 => ?_) (fun c5 => ?_)
            · replace c5 := zb_nzf c5
              refine zr_iconst C d_B_bindField_109 (n := 110) rfl (v := nI 0) (by decide) ?_
              refine zr_toe (y := zk_b (zb_nz (O 3 j) (nI 1))) (by rw [c5]; rfl) ?_
              refine zr_put C f_B_80 Y_B rfl rfl d_B_bindField_110 (n := 113) rfl (zk_g0 hB) (Nat.le_of_ble_eq_true rfl) (fun _ _ => zk_nb _) (fun _ _ => zk_fb _) ?_
              rw [zk_sset]
              refine zr_iconst C d_B_bindField_113 (n := 114) rfl (v := nI 0) (by decide) ?_
              rw [e, zb_pl_s (by omega)] at hK
              rw [zb_f_y c2 (by simp [c3, c4, c5])] at hK
              exact zr_iret C d_B_bindField_114 rfl hK (Nat.zero_le _) (Nat.zero_le _)
            · replace c5 := zb_nzt c5
              refine zr_iconst C d_B_bindField_105 (n := 106) rfl (v := nI 1) (by decide) ?_
              refine zr_goto C d_B_bindField_106 (t := 110) (by decide) ?_
              refine zr_toe (y := zk_b (zb_nz (O 3 j) (nI 1))) (by rw [c5]; rfl) ?_
              refine zr_put C f_B_80 Y_B rfl rfl d_B_bindField_110 (n := 113) rfl (zk_g0 hB) (Nat.le_of_ble_eq_true rfl) (fun _ _ => zk_nb _) (fun _ _ => zk_fb _) ?_
              rw [zk_sset]
              refine zr_iconst C d_B_bindField_113 (n := 114) rfl (v := nI 0) (by decide) ?_
              rw [e, zb_pl_s (by omega)] at hK
              rw [zb_f_y c2 (by simp [c3, c4, c5])] at hK
              exact zr_iret C d_B_bindField_114 rfl hK (Nat.zero_le _) (Nat.zero_le _)
          · replace c4 := zb_nzt c4
            refine zr_iconst C d_B_bindField_69 (n := 70) rfl (v := nI 1) (by decide) ?_
            refine zr_goto C d_B_bindField_70 (t := 74) (by decide) ?_
            refine zr_toe (y := zk_b (zb_nz (O 3 j) (nI 16))) (by rw [c4]; rfl) ?_
            refine zr_put C f_B_9 Y_B rfl rfl d_B_bindField_74 (n := 77) rfl hB (Nat.le_of_ble_eq_true rfl) (fun _ _ => zk_nb _) (fun _ _ => zk_fb _) ?_
            refine zr_aload_n C d_B_bindField_77 (n := 78) rfl rfl ?_
            refine zr_aload_n C d_B_bindField_78 (n := 79) rfl rfl ?_
            refine zr_getN C f_B_69 d_B_bindField_79 (n := 82) rfl (zk_g1 (by omega) ho) rfl ?_
            refine zr_iload_n C d_B_bindField_82 (n := 83) rfl rfl ?_
            refine zr_ialdN C d_B_bindField_83 (n := 84) rfl (zk_g1 (by omega) a4) rfl (by omega) (by decide) ?_
            refine zr_put C f_B_72 Y_B rfl rfl d_B_bindField_84 (n := 87) rfl (zk_g0 hB) (Nat.le_of_ble_eq_true rfl) (fun _ _ => rfl) (fun _ _ => rfl) ?_
            rw [zk_sset]
            refine zr_aload_n C d_B_bindField_87 (n := 88) rfl rfl ?_
            refine zr_aload_n C d_B_bindField_88 (n := 89) rfl rfl ?_
            refine zr_getN C f_B_74 d_B_bindField_89 (n := 92) rfl (zk_g1 (by omega) ho) rfl ?_
            refine zr_iload_n C d_B_bindField_92 (n := 93) rfl rfl ?_
            refine zr_ialdN C d_B_bindField_93 (n := 94) rfl (zk_g1 (by omega) a5) rfl (by omega) (by decide) ?_
            refine zr_put C f_B_77 Y_B rfl rfl d_B_bindField_94 (n := 97) rfl (zk_g0 hB) (Nat.le_of_ble_eq_true rfl) (fun _ _ => rfl) (fun _ _ => rfl) ?_
            rw [zk_sset]
            refine zr_aload_n C d_B_bindField_97 (n := 98) rfl rfl ?_
            refine zr_iload C d_B_bindField_98 (n := 100) rfl rfl ?_
            refine zr_iconst C d_B_bindField_100 (n := 101) rfl (v := nI 1) (by decide) ?_
            refine zr_iand C d_B_bindField_101 (n := 102) rfl ?_
            refine zr_if_eq C d_B_bindField_102 (n := 105) rfl (t := 109) (by decide) (fun c6 => ?_) (fun c6 => ?_)
            · replace c6 := zb_nzf c6
              refine zr_iconst C d_B_bindField_109 (n := 110) rfl (v := nI 0) (by decide) ?_
              refine zr_toe (y := zk_b (zb_nz (O 3 j) (nI 1))) (by rw [c6]; rfl) ?_
              refine zr_put C f_B_80 Y_B rfl rfl d_B_bindField_110 (n := 113) rfl (zk_g0 hB) (Nat.le_of_ble_eq_true rfl) (fun _ _ => zk_nb _) (fun _ _ => zk_fb _) ?_
              rw [zk_sset]
              refine zr_iconst C d_B_bindField_113 (n := 114) rfl (v := nI 0) (by decide) ?_
              rw [e, zb_pl_s (by omega)] at hK
              rw [zb_f_y c2 (by simp [c3, c4, c6])] at hK
              exact zr_iret C d_B_bindField_114 rfl hK (Nat.zero_le _) (Nat.zero_le _)
            · replace c6 := zb_nzt c6
              refine zr_iconst C d_B_bindField_105 (n := 106) rfl (v := nI 1) (by decide) ?_
              refine zr_goto C d_B_bindField_106 (t := 110) (by decide) ?_
              refine zr_toe (y := zk_b (zb_nz (O 3 j) (nI 1))) (by rw [c6]; rfl) ?_
              refine zr_put C f_B_80 Y_B rfl rfl d_B_bindField_110 (n := 113) rfl (zk_g0 hB) (Nat.le_of_ble_eq_true rfl) (fun _ _ => zk_nb _) (fun _ _ => zk_fb _) ?_
              rw [zk_sset]
              refine zr_iconst C d_B_bindField_113 (n := 114) rfl (v := nI 0) (by decide) ?_
              rw [e, zb_pl_s (by omega)] at hK
              rw [zb_f_y c2 (by simp [c3, c4, c6])] at hK
              exact zr_iret C d_B_bindField_114 rfl hK (Nat.zero_le _) (Nat.zero_le _)
        · replace c3 := zk_eq (by omega) (by omega) c3
          refine zr_iload C d_B_bindField_50 (n := 52) rfl rfl ?_
          refine zr_iconst C d_B_bindField_52 (n := 53) rfl (v := nI 4) (by decide) ?_
          refine zr_iand C d_B_bindField_53 (n := 54) rfl ?_
          refine zr_if_eq C d_B_bindField_54 (n := 57) rfl (t := 60) (by decide) (fun c7 => ?_) (fun c7 => ?_)
          · replace c7 := zb_nzf c7
            refine zr_aload_n C d_B_bindField_60 (n := 61) rfl rfl ?_
            refine zr_iload C d_B_bindField_61 (n := 63) rfl rfl ?_
            refine zr_bipush C d_B_bindField_63 (n := 65) rfl (v := nI 16) (by decide) ?_
            refine zr_iand C d_B_bindField_65 (n := 66) rfl ?_
            refine zr_if_eq C d_B_bindField_66 (n := 69) rfl (t := 73) (by decide) (fun c8 => ?_) (fun c8 => ?_)
            · replace c8 := zb_nzf c8
              refine zr_iconst C d_B_bindField_73 (n := 74) rfl (v := nI 0) (by decide) ?_
              refine zr_toe (y := zk_b (zb_nz (O 3 j) (nI 16))) (by rw [c8]; rfl) ?_
              refine zr_put C f_B_9 Y_B rfl rfl d_B_bindField_74 (n := 77) rfl hB (Nat.le_of_ble_eq_true rfl) (fun _ _ => zk_nb _) (fun _ _ => zk_fb _) ?_
              refine zr_aload_n C d_B_bindField_77 (n := 78) rfl rfl ?_
              refine zr_aload_n C d_B_bindField_78 (n := 79) rfl rfl ?_
              refine zr_getN C f_B_69 d_B_bindField_79 (n := 82) rfl (zk_g1 (by omega) ho) rfl ?_
              refine zr_iload_n C d_B_bindField_82 (n := 83) rfl rfl ?_
              refine zr_ialdN C d_B_bindField_83 (n := 84) rfl (zk_g1 (by omega) a4) rfl (by omega) (by decide) ?_
              refine zr_put C f_B_72 Y_B rfl rfl d_B_bindField_84 (n := 87) rfl (zk_g0 hB) (Nat.le_of_ble_eq_true rfl) (fun _ _ => rfl) (fun _ _ => rfl) ?_
              rw [zk_sset]
              refine zr_aload_n C d_B_bindField_87 (n := 88) rfl rfl ?_
              refine zr_aload_n C d_B_bindField_88 (n := 89) rfl rfl ?_
              refine zr_getN C f_B_74 d_B_bindField_89 (n := 92) rfl (zk_g1 (by omega) ho) rfl ?_
              refine zr_iload_n C d_B_bindField_92 (n := 93) rfl rfl ?_
              refine zr_ialdN C d_B_bindField_93 (n := 94) rfl (zk_g1 (by omega) a5) rfl (by omega) (by decide) ?_
              refine zr_put C f_B_77 Y_B rfl rfl d_B_bindField_94 (n := 97) rfl (zk_g0 hB) (Nat.le_of_ble_eq_true rfl) (fun _ _ => rfl) (fun _ _ => rfl) ?_
              rw [zk_sset]
              refine zr_aload_n C d_B_bindField_97 (n := 98) rfl rfl ?_
              refine zr_iload C d_B_bindField_98 (n := 100) rfl rfl ?_
              refine zr_iconst C d_B_bindField_100 (n := 101) rfl (v := nI 1) (by decide) ?_
              refine zr_iand C d_B_bindField_101 (n := 102) rfl ?_
              refine zr_if_eq C d_B_bindField_102 (n := 105) rfl (t := 109) (by decide) (fun c9 => ?_) (fun c9 => ?_)
              · replace c9 := zb_nzf c9
                refine zr_iconst C d_B_bindField_109 (n := 110) rfl (v := nI 0) (by decide) ?_
                refine zr_toe (y := zk_b (zb_nz (O 3 j) (nI 1))) (by rw [c9]; rfl) ?_
                refine zr_put C f_B_80 Y_B rfl rfl d_B_bindField_110 (n := 113) rfl (zk_g0 hB) (Nat.le_of_ble_eq_true rfl) (fun _ _ => zk_nb _) (fun _ _ => zk_fb _) ?_
                rw [zk_sset]
                refine zr_iconst C d_B_bindField_113 (n := 114) rfl (v := nI 0) (by decide) ?_
                rw [e, zb_pl_s (by omega)] at hK
                rw [zb_f_y c2 (by simp [c3, c7, c8, c9])] at hK
                exact zr_iret C d_B_bindField_114 rfl hK (Nat.zero_le _) (Nat.zero_le _)
              · replace c9 := zb_nzt c9
                refine zr_iconst C d_B_bindField_105 (n := 106) rfl (v := nI 1) (by decide) ?_
                refine zr_goto C d_B_bindField_106 (t := 110) (by decide) ?_
                refine zr_toe (y := zk_b (zb_nz (O 3 j) (nI 1))) (by rw [c9]; rfl) ?_
                refine zr_put C f_B_80 Y_B rfl rfl d_B_bindField_110 (n := 113) rfl (zk_g0 hB) (Nat.le_of_ble_eq_true rfl) (fun _ _ => zk_nb _) (fun _ _ => zk_fb _) ?_
                rw [zk_sset]
                refine zr_iconst C d_B_bindField_113 (n := 114) rfl (v := nI 0) (by decide) ?_
                rw [e, zb_pl_s (by omega)] at hK
                rw [zb_f_y c2 (by simp [c3, c7, c8, c9])] at hK
                exact zr_iret C d_B_bindField_114 rfl hK (Nat.zero_le _) (Nat.zero_le _)
            · replace c8 := zb_nzt c8
              refine zr_iconst C d_B_bindField_69 (n := 70) rfl (v := nI 1) (by decide) ?_
              refine zr_goto C d_B_bindField_70 (t := 74) (by decide) ?_
              refine zr_toe (y := zk_b (zb_nz (O 3 j) (nI 16))) (by rw [c8]; rfl) ?_
              refine zr_put C f_B_9 Y_B rfl rfl d_B_bindField_74 (n := 77) rfl hB (Nat.le_of_ble_eq_true rfl) (fun _ _ => zk_nb _) (fun _ _ => zk_fb _) ?_
              refine zr_aload_n C d_B_bindField_77 (n := 78) rfl rfl ?_
              refine zr_aload_n C d_B_bindField_78 (n := 79) rfl rfl ?_
              refine zr_getN C f_B_69 d_B_bindField_79 (n := 82) rfl (zk_g1 (by omega) ho) rfl ?_
              refine zr_iload_n C d_B_bindField_82 (n := 83) rfl rfl ?_
              refine zr_ialdN C d_B_bindField_83 (n := 84) rfl (zk_g1 (by omega) a4) rfl (by omega) (by decide) ?_
              refine zr_put C f_B_72 Y_B rfl rfl d_B_bindField_84 (n := 87) rfl (zk_g0 hB) (Nat.le_of_ble_eq_true rfl) (fun _ _ => rfl) (fun _ _ => rfl) ?_
              rw [zk_sset]
              refine zr_aload_n C d_B_bindField_87 (n := 88) rfl rfl ?_
              refine zr_aload_n C d_B_bindField_88 (n := 89) rfl rfl ?_
              refine zr_getN C f_B_74 d_B_bindField_89 (n := 92) rfl (zk_g1 (by omega) ho) rfl ?_
              refine zr_iload_n C d_B_bindField_92 (n := 93) rfl rfl ?_
              refine zr_ialdN C d_B_bindField_93 (n := 94) rfl (zk_g1 (by omega) a5) rfl (by omega) (by decide) ?_
              refine zr_put C f_B_77 Y_B rfl rfl d_B_bindField_94 (n := 97) rfl (zk_g0 hB) (Nat.le_of_ble_eq_true rfl) (fun _ _ => rfl) (fun _ _ => rfl) ?_
              rw [zk_sset]
              refine zr_aload_n C d_B_bindField_97 (n := 98) rfl rfl ?_
              refine zr_iload C d_B_bindField_98 (n := 100) rfl rfl ?_
              refine zr_iconst C d_B_bindField_100 (n := 101) rfl (v := nI 1) (by decide) ?_
              refine zr_iand C d_B_bindField_101 (n := 102) rfl ?_
              refine zr_if_eq C d_B_bindField_102 (n := 105) rfl (t := 109) (by decide) (fun c10 => ?_) (fun c10 => ?_)
              · replace c10 := zb_nzf c10
                refine zr_iconst C d_B_bindField_109 (n := 110) rfl (v := nI 0) (by decide) ?_
                refine zr_toe (y := zk_b (zb_nz (O 3 j) (nI 1))) (by rw [c10]; rfl) ?_
                refine zr_put C f_B_80 Y_B rfl rfl d_B_bindField_110 (n := 113) rfl (zk_g0 hB) (Nat.le_of_ble_eq_true rfl) (fun _ _ => zk_nb _) (fun _ _ => zk_fb _) ?_
                rw [zk_sset]
                refine zr_iconst C d_B_bindField_113 (n := 114) rfl (v := nI 0) (by decide) ?_
                rw [e, zb_pl_s (by omega)] at hK
                rw [zb_f_y c2 (by simp [c3, c7, c8, c10])] at hK
                exact zr_iret C d_B_bindField_114 rfl hK (Nat.zero_le _) (Nat.zero_le _)
              · replace c10 := zb_nzt c10
                refine zr_iconst C d_B_bindField_105 (n := 106) rfl (v := nI 1) (by decide) ?_
                refine zr_goto C d_B_bindField_106 (t := 110) (by decide) ?_
                refine zr_toe (y := zk_b (zb_nz (O 3 j) (nI 1))) (by rw [c10]; rfl) ?_
                refine zr_put C f_B_80 Y_B rfl rfl d_B_bindField_110 (n := 113) rfl (zk_g0 hB) (Nat.le_of_ble_eq_true rfl) (fun _ _ => zk_nb _) (fun _ _ => zk_fb _) ?_
                rw [zk_sset]
                refine zr_iconst C d_B_bindField_113 (n := 114) rfl (v := nI 0) (by decide) ?_
                rw [e, zb_pl_s (by omega)] at hK
                rw [zb_f_y c2 (by simp [c3, c7, c8, c10])] at hK
                exact zr_iret C d_B_bindField_114 rfl hK (Nat.zero_le _) (Nat.zero_le _)
          · replace c7 := zb_nzt c7
            refine zr_bipush C d_B_bindField_57 (n := 59) rfl (v := -5) (by decide) ?_
            rw [e, zb_pl_s (by omega)] at hK
            rw [zb_f_x c2 ⟨c3, c7⟩] at hK
            have hK : K (some (.int (-5))) (h.set i (zb_c B)) := hK
            rw [zk_ss hB] at hK
            exact zr_iret C d_B_bindField_59 rfl hK (Nat.zero_le _) (Nat.zero_le _)
      · replace c2 := zb_nzt c2
        refine zr_bipush C d_B_bindField_31 (n := 33) rfl (v := -4) (by decide) ?_
        rw [e, zb_pl_s (by omega)] at hK
        rw [zb_f_h c2] at hK
        have hK : K (some (.int (-4))) (h.set i (zb_c B)) := hK
        rw [zk_ss hB] at hK
        exact zr_iret C d_B_bindField_33 rfl hK (Nat.zero_le _) (Nat.zero_le _)
abbrev rm_B_bindCall : Room := { frames := 3, cells := 0, slots := 0, locals := 72 }
set_option maxHeartbeats 4000000 in
set_option maxRecDepth 100000 in
/-- bindCall -/
theorem sp_B_bindCall (l : Launch) {h : zk_H} {i u o : Nat} {B : Nat → Int32} {k t nm : Nat} {ag : Nat} {O : zo_O} (hB : h[i]? = some (zb_c B)) (hU : h[u]? = some (zu_c k t nm (nI ag))) (hO : zo_at h o O) (hw : zo_wf O) (hiu : i ≠ u) (hio : i < o ∨ o + 8 < i) (ht : t < 6) (hk : k < 7) (hnm : nm < 3) (ha : ag < 4) {K : Option Value → zk_H → Prop} (hK : K (some (.int (zb_cc O k t nm ag B).1)) (h.set i (zb_c (zb_cc O k t nm ag B).2))) : zk_S l y_B_bindCall b_B_bindCall 6 (some .int) rm_B_bindCall [.ref (i + 1), .ref (u + 1), .ref (o + 1)] h K := by
  obtain ⟨ho, a0, a1, a2, a3, a4, a5, a6, a7⟩ := id hO
  refine zk_S_of R_B "bindCall" (by decide) rfl rfl [some (.ref (i + 1)), some (.ref (u + 1)), some (.ref (o + 1)), none, none, none] 3 rfl (Nat.le_of_ble_eq_true rfl) (fun p e s m ar below meth c D dA b base C => ?_)
  have L : ∀ (la n pp : Nat), la ≤ 3 → pp + n = la + 1 → K (some (.int (zb_cL O k t nm B n pp).1)) (h.set i (zb_c (zb_cL O k t nm B n pp).2)) → zk_V p l e rm_B_bindCall s m ar below meth c 6 D dA b base (MQ below (zk_Q K D dA b base) ar s rm_B_bindCall.cells rm_B_bindCall.slots (fun q : Nat => base ≤ q)) 0 0 19 [some (.ref (i + 1)), some (.ref (u + 1)), some (.ref (o + 1)), some (.int (nI la)), some (.int (nI pp)), none] [] h := by
    intro la n
    induction n with
    | zero =>
      intro pp hla hp hK
      rw [zb_cL] at hK
      have hK : K (some (.int (-4))) (h.set i (zb_c B)) := hK
      rw [zk_ss hB] at hK
      refine zr_iload C d_B_bindCall_19 (n := 21) rfl rfl ?_
      refine zr_iload_n C d_B_bindCall_21 (n := 22) rfl rfl ?_
      refine zr_icmp_gt C d_B_bindCall_22 (n := 25) rfl (t := 76) (by decide) (fun c1 => ?_) (fun c1 => ?_)
      · refine zr_bipush C d_B_bindCall_76 (n := 78) rfl (v := -4) (by decide) ?_
        exact zr_iret C d_B_bindCall_78 rfl hK (Nat.zero_le _) (Nat.zero_le _)
      · exact absurd (zk_nlt (by omega) (by omega) c1) (by omega)
    | succ n ih =>
      intro pp hla hp hK
      rcases zo_fm_pl hw ht hnm (pa := pp) (by omega) (an := -1) with e | ⟨j, hj, e, hjp⟩
      · refine zr_iload C d_B_bindCall_19 (n := 21) rfl rfl ?_
        refine zr_iload_n C d_B_bindCall_21 (n := 22) rfl rfl ?_
        refine zr_icmp_gt C d_B_bindCall_22 (n := 25) rfl (t := 76) (by decide) (fun c1 => ?_) (fun c1 => ?_)
        · exact absurd (zk_lt (by omega) (by omega) c1) (by omega)
        · refine zr_aload_n C d_B_bindCall_25 (n := 26) rfl rfl ?_
          refine zr_aload_n C d_B_bindCall_26 (n := 27) rfl rfl ?_
          refine zr_getN C f_B_15 d_B_bindCall_27 (n := 30) rfl hU rfl ?_
          refine zr_aload_n C d_B_bindCall_30 (n := 31) rfl rfl ?_
          refine zr_getN C f_B_58 d_B_bindCall_31 (n := 34) rfl hU rfl ?_
          refine zr_iload C d_B_bindCall_34 (n := 36) rfl rfl ?_
          refine zr_iconst C d_B_bindCall_36 (n := 37) rfl (v := -1) (by decide) ?_
          refine zr_callV4 C k_B_86 d_B_bindCall_37 (nx := 40) rfl ho rfl ⟨by decide, by decide⟩ (Nat.le_of_ble_eq_true rfl) ⟨by decide, by decide⟩ (sp_O_findMethod l hO hw ht hnm (pa := pp) (by omega) ?_)
          refine zr_toe (y := -1) e ?_
          refine zr_istore C d_B_bindCall_40 (n := 42) rfl (by decide) rfl ?_
          refine zr_iload C d_B_bindCall_42 (n := 44) rfl rfl ?_
          refine zr_iconst C d_B_bindCall_44 (n := 45) rfl (v := -1) (by decide) ?_
          refine zr_icmp_eq C d_B_bindCall_45 (n := 48) rfl (t := 70) (by decide) (fun c2 => ?_) (fun c2 => ?_)
          · refine zr_iinc C d_B_bindCall_70 (n := 73) rfl rfl (w := 1) (by decide) (nI_1 pp) (by decide) rfl ?_
            refine zr_goto C d_B_bindCall_73 (t := 19) (by decide) ?_
            refine zr_drop 5 ?_
            exact ih (pp + 1) hla (by omega) (by rw [zb_cL_n (by rw [e]; exact zb_pl_n)] at hK; exact hK)
          · exact absurd rfl c2
      · refine zr_iload C d_B_bindCall_19 (n := 21) rfl rfl ?_
        refine zr_iload_n C d_B_bindCall_21 (n := 22) rfl rfl ?_
        refine zr_icmp_gt C d_B_bindCall_22 (n := 25) rfl (t := 76) (by decide) (fun c1 => ?_) (fun c1 => ?_)
        · exact absurd (zk_lt (by omega) (by omega) c1) (by omega)
        · refine zr_aload_n C d_B_bindCall_25 (n := 26) rfl rfl ?_
          refine zr_aload_n C d_B_bindCall_26 (n := 27) rfl rfl ?_
          refine zr_getN C f_B_15 d_B_bindCall_27 (n := 30) rfl hU rfl ?_
          refine zr_aload_n C d_B_bindCall_30 (n := 31) rfl rfl ?_
          refine zr_getN C f_B_58 d_B_bindCall_31 (n := 34) rfl hU rfl ?_
          refine zr_iload C d_B_bindCall_34 (n := 36) rfl rfl ?_
          refine zr_iconst C d_B_bindCall_36 (n := 37) rfl (v := -1) (by decide) ?_
          refine zr_callV4 C k_B_86 d_B_bindCall_37 (nx := 40) rfl ho rfl ⟨by decide, by decide⟩ (Nat.le_of_ble_eq_true rfl) ⟨by decide, by decide⟩ (sp_O_findMethod l hO hw ht hnm (pa := pp) (by omega) ?_)
          refine zr_toe (y := nI j) e ?_
          refine zr_istore C d_B_bindCall_40 (n := 42) rfl (by decide) rfl ?_
          refine zr_iload C d_B_bindCall_42 (n := 44) rfl rfl ?_
          refine zr_iconst C d_B_bindCall_44 (n := 45) rfl (v := -1) (by decide) ?_
          refine zr_icmp_eq C d_B_bindCall_45 (n := 48) rfl (t := 70) (by decide) (fun c2 => ?_) (fun c2 => ?_)
          · exact absurd c2 (zk_nm1 (by omega))
          · refine zr_aload_n C d_B_bindCall_48 (n := 49) rfl rfl ?_
            refine zr_getN C f_B_90 d_B_bindCall_49 (n := 52) rfl ho rfl ?_
            refine zr_iload C d_B_bindCall_52 (n := 54) rfl rfl ?_
            refine zr_ialdN C d_B_bindCall_54 (n := 55) rfl a6 rfl (by omega) (by decide) ?_
            refine zr_bipush C d_B_bindCall_55 (n := 57) rfl (v := nI 8) (by decide) ?_
            refine zr_iand C d_B_bindCall_57 (n := 58) rfl ?_
            refine zr_if_ne C d_B_bindCall_58 (n := 61) rfl (t := 70) (by decide) (fun c3 => ?_) (fun c3 => ?_)
            · replace c3 := zb_nzt c3
              refine zr_iinc C d_B_bindCall_70 (n := 73) rfl rfl (w := 1) (by decide) (nI_1 pp) (by decide) rfl ?_
              refine zr_goto C d_B_bindCall_73 (t := 19) (by decide) ?_
              refine zr_drop 5 ?_
              exact ih (pp + 1) hla (by omega) (by rw [zb_cL_h (by rw [e]; exact zb_pl_s (by omega)) c3] at hK; exact hK)
            · replace c3 := zb_nzf c3
              refine zr_aload_n C d_B_bindCall_61 (n := 62) rfl rfl ?_
              refine zr_aload_n C d_B_bindCall_62 (n := 63) rfl rfl ?_
              refine zr_aload_n C d_B_bindCall_63 (n := 64) rfl rfl ?_
              refine zr_iload C d_B_bindCall_64 (n := 66) rfl rfl ?_
              refine zr_callV3 C k_B_93 d_B_bindCall_66 (nx := 69) rfl hB rfl ⟨by decide, by decide⟩ (Nat.le_of_ble_eq_true rfl) ⟨by decide, by decide⟩ (sp_B_bindMethod l hB hU hO hiu hio ht hk hj ?_)
              exact zr_iret C d_B_bindCall_69 rfl (by rw [zb_cL_y (by rw [e]; exact zb_pl_s (by omega)) c3] at hK; exact hK) (Nat.zero_le _) (Nat.zero_le _)
  refine zr_aload_n C d_B_bindCall_0 (n := 1) rfl rfl ?_
  refine zr_getN C f_B_83 d_B_bindCall_1 (n := 4) rfl hU rfl ?_
  refine zr_if_ne C d_B_bindCall_4 (n := 7) rfl (t := 11) (by decide) (fun c1 => ?_) (fun c1 => ?_)
  · refine zr_iconst C d_B_bindCall_11 (n := 12) rfl (v := nI 3) (by decide) ?_
    refine zr_istore_n C d_B_bindCall_12 (n := 13) rfl (by decide) rfl ?_
    refine zr_aload_n C d_B_bindCall_13 (n := 14) rfl rfl ?_
    refine zr_getN C f_B_83 d_B_bindCall_14 (n := 17) rfl hU rfl ?_
    refine zr_istore C d_B_bindCall_17 (n := 19) rfl (by decide) rfl ?_
    exact L 3 (4 - ag) ag (by omega) (by have := ha; have : ¬ ag = 0 := fun q => c1 (by rw [q]; rfl); omega) (by rw [zb_cc, if_neg (fun q => c1 (by rw [q]; rfl))] at hK; exact hK)
  · refine zr_iconst C d_B_bindCall_7 (n := 8) rfl (v := nI 0) (by decide) ?_
    refine zr_goto C d_B_bindCall_8 (t := 12) (by decide) ?_
    refine zr_istore_n C d_B_bindCall_12 (n := 13) rfl (by decide) rfl ?_
    refine zr_aload_n C d_B_bindCall_13 (n := 14) rfl rfl ?_
    refine zr_getN C f_B_83 d_B_bindCall_14 (n := 17) rfl hU rfl ?_
    refine zr_istore C d_B_bindCall_17 (n := 19) rfl (by decide) rfl ?_
    have z0 : ag = 0 := zk_eq (by omega) (by omega) (c1.trans nI_0.symm)
    subst z0
    exact L 0 1 0 (by omega) rfl (by rw [zb_cc, if_pos rfl] at hK; exact hK)
abbrev rm_B_bindOverride : Room := { frames := 3, cells := 0, slots := 0, locals := 72 }
set_option maxHeartbeats 4000000 in
set_option maxRecDepth 100000 in
/-- bindOverride -/
theorem sp_B_bindOverride (l : Launch) {h : zk_H} {i u o : Nat} {B : Nat → Int32} {k t nm : Nat} {ag : Nat} {O : zo_O} (hB : h[i]? = some (zb_c B)) (hU : h[u]? = some (zu_c k t nm (nI ag))) (hO : zo_at h o O) (hw : zo_wf O) (hiu : i ≠ u) (hio : i < o ∨ o + 8 < i) (ht : t < 6) (hnm : nm < 3) (ha : ag < 4) {K : Option Value → zk_H → Prop} (hK : K (some (.int (zb_o O t B (zb_pl (zo_fm O t nm ag (-1)))).1)) (h.set i (zb_c (zb_o O t B (zb_pl (zo_fm O t nm ag (-1)))).2))) : zk_S l y_B_bindOverride b_B_bindOverride 4 (some .int) rm_B_bindOverride [.ref (i + 1), .ref (u + 1), .ref (o + 1)] h K := by
  obtain ⟨ho, a0, a1, a2, a3, a4, a5, a6, a7⟩ := id hO
  refine zk_S_of R_B "bindOverride" (by decide) rfl rfl [some (.ref (i + 1)), some (.ref (u + 1)), some (.ref (o + 1)), none] 1 rfl (Nat.le_of_ble_eq_true rfl) (fun p e s m ar below meth c D dA b base C => ?_)
  rcases zo_fm_pl hw ht hnm ha (an := -1) with e | ⟨j, hj, e, hjp⟩
  · refine zr_aload_n C d_B_bindOverride_0 (n := 1) rfl rfl ?_
    refine zr_aload_n C d_B_bindOverride_1 (n := 2) rfl rfl ?_
    refine zr_getN C f_B_15 d_B_bindOverride_2 (n := 5) rfl hU rfl ?_
    refine zr_callV1 C k_B_52 d_B_bindOverride_5 (nx := 8) rfl ho rfl ⟨by decide, by decide⟩ (Nat.le_of_ble_eq_true rfl) ⟨by decide, by decide⟩ (sp_O_isFinal l hO ht ?_)
    refine zr_if_eq C d_B_bindOverride_8 (n := 11) rfl (t := 14) (by decide) (fun c1 => ?_) (fun c1 => ?_)
    · replace c1 := zk_bz c1
      refine zr_aload_n C d_B_bindOverride_14 (n := 15) rfl rfl ?_
      refine zr_aload_n C d_B_bindOverride_15 (n := 16) rfl rfl ?_
      refine zr_getN C f_B_15 d_B_bindOverride_16 (n := 19) rfl hU rfl ?_
      refine zr_aload_n C d_B_bindOverride_19 (n := 20) rfl rfl ?_
      refine zr_getN C f_B_58 d_B_bindOverride_20 (n := 23) rfl hU rfl ?_
      refine zr_aload_n C d_B_bindOverride_23 (n := 24) rfl rfl ?_
      refine zr_getN C f_B_83 d_B_bindOverride_24 (n := 27) rfl hU rfl ?_
      refine zr_iconst C d_B_bindOverride_27 (n := 28) rfl (v := -1) (by decide) ?_
      refine zr_callV4 C k_B_86 d_B_bindOverride_28 (nx := 31) rfl ho rfl ⟨by decide, by decide⟩ (Nat.le_of_ble_eq_true rfl) ⟨by decide, by decide⟩ (sp_O_findMethod l hO hw ht hnm ha ?_)
      refine zr_toe (y := -1) e ?_
      refine zr_istore_n C d_B_bindOverride_31 (n := 32) rfl (by decide) rfl ?_
      refine zr_iload_n C d_B_bindOverride_32 (n := 33) rfl rfl ?_
      refine zr_iconst C d_B_bindOverride_33 (n := 34) rfl (v := -1) (by decide) ?_
      refine zr_icmp_eq C d_B_bindOverride_34 (n := 37) rfl (t := 49) (by decide) (fun c2 => ?_) (fun c2 => ?_)
      · refine zr_bipush C d_B_bindOverride_49 (n := 51) rfl (v := -4) (by decide) ?_
        rw [e, zb_pl_n, zb_o_n c1] at hK
        have hK : K (some (.int (-4))) (h.set i (zb_c B)) := hK
        rw [zk_ss hB] at hK
        exact zr_iret C d_B_bindOverride_51 rfl hK (Nat.zero_le _) (Nat.zero_le _)
      · exact absurd rfl c2
    · replace c1 := zk_bn c1
      refine zr_bipush C d_B_bindOverride_11 (n := 13) rfl (v := -5) (by decide) ?_
      rw [zb_o_x c1] at hK
      have hK : K (some (.int (-5))) (h.set i (zb_c B)) := hK
      rw [zk_ss hB] at hK
      exact zr_iret C d_B_bindOverride_13 rfl hK (Nat.zero_le _) (Nat.zero_le _)
  · refine zr_aload_n C d_B_bindOverride_0 (n := 1) rfl rfl ?_
    refine zr_aload_n C d_B_bindOverride_1 (n := 2) rfl rfl ?_
    refine zr_getN C f_B_15 d_B_bindOverride_2 (n := 5) rfl hU rfl ?_
    refine zr_callV1 C k_B_52 d_B_bindOverride_5 (nx := 8) rfl ho rfl ⟨by decide, by decide⟩ (Nat.le_of_ble_eq_true rfl) ⟨by decide, by decide⟩ (sp_O_isFinal l hO ht ?_)
    refine zr_if_eq C d_B_bindOverride_8 (n := 11) rfl (t := 14) (by decide) (fun c1 => ?_) (fun c1 => ?_)
    · replace c1 := zk_bz c1
      refine zr_aload_n C d_B_bindOverride_14 (n := 15) rfl rfl ?_
      refine zr_aload_n C d_B_bindOverride_15 (n := 16) rfl rfl ?_
      refine zr_getN C f_B_15 d_B_bindOverride_16 (n := 19) rfl hU rfl ?_
      refine zr_aload_n C d_B_bindOverride_19 (n := 20) rfl rfl ?_
      refine zr_getN C f_B_58 d_B_bindOverride_20 (n := 23) rfl hU rfl ?_
      refine zr_aload_n C d_B_bindOverride_23 (n := 24) rfl rfl ?_
      refine zr_getN C f_B_83 d_B_bindOverride_24 (n := 27) rfl hU rfl ?_
      refine zr_iconst C d_B_bindOverride_27 (n := 28) rfl (v := -1) (by decide) ?_
      refine zr_callV4 C k_B_86 d_B_bindOverride_28 (nx := 31) rfl ho rfl ⟨by decide, by decide⟩ (Nat.le_of_ble_eq_true rfl) ⟨by decide, by decide⟩ (sp_O_findMethod l hO hw ht hnm ha ?_)
      refine zr_toe (y := nI j) e ?_
      refine zr_istore_n C d_B_bindOverride_31 (n := 32) rfl (by decide) rfl ?_
      refine zr_iload_n C d_B_bindOverride_32 (n := 33) rfl rfl ?_
      refine zr_iconst C d_B_bindOverride_33 (n := 34) rfl (v := -1) (by decide) ?_
      refine zr_icmp_eq C d_B_bindOverride_34 (n := 37) rfl (t := 49) (by decide) (fun c2 => ?_) (fun c2 => ?_)
      · exact absurd c2 (zk_nm1 (by omega))
      · refine zr_aload_n C d_B_bindOverride_37 (n := 38) rfl rfl ?_
        refine zr_getN C f_B_90 d_B_bindOverride_38 (n := 41) rfl ho rfl ?_
        refine zr_iload_n C d_B_bindOverride_41 (n := 42) rfl rfl ?_
        refine zr_ialdN C d_B_bindOverride_42 (n := 43) rfl a6 rfl (by omega) (by decide) ?_
        refine zr_bipush C d_B_bindOverride_43 (n := 45) rfl (v := nI 8) (by decide) ?_
        refine zr_iand C d_B_bindOverride_45 (n := 46) rfl ?_
        refine zr_if_eq C d_B_bindOverride_46 (n := 49) rfl (t := 52) (by decide) (fun c3 => ?_) (fun c3 => ?_)
        · replace c3 := zb_nzf c3
          refine zr_aload_n C d_B_bindOverride_52 (n := 53) rfl rfl ?_
          refine zr_getN C f_B_90 d_B_bindOverride_53 (n := 56) rfl ho rfl ?_
          refine zr_iload_n C d_B_bindOverride_56 (n := 57) rfl rfl ?_
          refine zr_ialdN C d_B_bindOverride_57 (n := 58) rfl a6 rfl (by omega) (by decide) ?_
          refine zr_iconst C d_B_bindOverride_58 (n := 59) rfl (v := nI 5) (by decide) ?_
          refine zr_iand C d_B_bindOverride_59 (n := 60) rfl ?_
          refine zr_if_eq C d_B_bindOverride_60 (n := 63) rfl (t := 66) (by decide) (fun c4 => ?_) (fun c4 => ?_)
          · replace c4 := zb_nzf c4
            refine zr_aload_n C d_B_bindOverride_66 (n := 67) rfl rfl ?_
            refine zr_aload_n C d_B_bindOverride_67 (n := 68) rfl rfl ?_
            refine zr_getN C f_B_100 d_B_bindOverride_68 (n := 71) rfl ho rfl ?_
            refine zr_iload_n C d_B_bindOverride_71 (n := 72) rfl rfl ?_
            refine zr_ialdN C d_B_bindOverride_72 (n := 73) rfl a7 rfl (by omega) (by decide) ?_
            refine zr_put C f_B_103 Y_B rfl rfl d_B_bindOverride_73 (n := 76) rfl hB (Nat.le_of_ble_eq_true rfl) (fun _ _ => rfl) (fun _ _ => rfl) ?_
            refine zr_iconst C d_B_bindOverride_76 (n := 77) rfl (v := nI 0) (by decide) ?_
            rw [e, zb_pl_s (by omega)] at hK
            rw [zb_o_y c1 c3, if_neg (by rw [c4]; decide)] at hK
            exact zr_iret C d_B_bindOverride_77 rfl hK (Nat.zero_le _) (Nat.zero_le _)
          · replace c4 := zb_nzt c4
            refine zr_bipush C d_B_bindOverride_63 (n := 65) rfl (v := -5) (by decide) ?_
            rw [e, zb_pl_s (by omega)] at hK
            rw [zb_o_y c1 c3, if_pos c4] at hK
            have hK : K (some (.int (-5))) (h.set i (zb_c B)) := hK
            rw [zk_ss hB] at hK
            exact zr_iret C d_B_bindOverride_65 rfl hK (Nat.zero_le _) (Nat.zero_le _)
        · replace c3 := zb_nzt c3
          refine zr_bipush C d_B_bindOverride_49 (n := 51) rfl (v := -4) (by decide) ?_
          rw [e, zb_pl_s (by omega)] at hK
          rw [zb_o_h c1 c3] at hK
          have hK : K (some (.int (-4))) (h.set i (zb_c B)) := hK
          rw [zk_ss hB] at hK
          exact zr_iret C d_B_bindOverride_51 rfl hK (Nat.zero_le _) (Nat.zero_le _)
    · replace c1 := zk_bn c1
      refine zr_bipush C d_B_bindOverride_11 (n := 13) rfl (v := -5) (by decide) ?_
      rw [zb_o_x c1] at hK
      have hK : K (some (.int (-5))) (h.set i (zb_c B)) := hK
      rw [zk_ss hB] at hK
      exact zr_iret C d_B_bindOverride_13 rfl hK (Nat.zero_le _) (Nat.zero_le _)
abbrev rm_B_bind : Room := { frames := 10, cells := 0, slots := 0, locals := 266 }
set_option maxHeartbeats 4000000 in
set_option maxRecDepth 100000 in
/-- bind -/
theorem sp_B_bind (l : Launch) {h : zk_H} {i u o : Nat} {B : Nat → Int32} {k t nm : Nat} {ag : Nat} {a : Int32} {O : zo_O} (hB : h[i]? = some (zb_c B)) (hU : h[u]? = some (zu_c k t nm a)) (hO : zo_at h o O) (hw : zo_wf O) (hiu : i ≠ u) (hio : i < o ∨ o + 8 < i) (ht : t < 6) (hk : k < 7) (hnm : nm < 4) (hm : k = 2 ∨ k = 3 ∨ k = 6 → nm < 3 ∧ a = nI ag ∧ ag < 4) {K : Option Value → zk_H → Prop} (hK : K none (h.set i (zb_c (zb_bind O k t nm ag B)))) : zk_S l y_B_bind b_B_bind 3 none rm_B_bind [.ref (i + 1), .ref (u + 1), .ref (o + 1)] h K := by
  obtain ⟨ho, a0, a1, a2, a3, a4, a5, a6, a7⟩ := id hO
  refine zk_S_of R_B "bind" (by decide) rfl rfl [some (.ref (i + 1)), some (.ref (u + 1)), some (.ref (o + 1))] 0 rfl (Nat.le_of_ble_eq_true rfl) (fun p e s m ar below meth c D dA b base C => ?_)
  refine zr_aload_n C d_B_bind_0 (n := 1) rfl rfl ?_
  refine zr_iconst C d_B_bind_1 (n := 2) rfl (v := nI 0) (by decide) ?_
  refine zr_put C f_B_9 Y_B rfl rfl d_B_bind_2 (n := 5) rfl hB (Nat.le_of_ble_eq_true rfl) (fun _ _ => zk_nb false) (fun _ _ => zk_fb false) ?_
  refine zr_aload_n C d_B_bind_5 (n := 6) rfl rfl ?_
  refine zr_aload_n C d_B_bind_6 (n := 7) rfl rfl ?_
  refine zr_aload_n C d_B_bind_7 (n := 8) rfl rfl ?_
  refine zr_getN C f_B_15 d_B_bind_8 (n := 11) rfl (zk_g1 (by omega) hU) rfl ?_
  refine zr_callV1 C k_B_21 d_B_bind_11 (nx := 14) rfl (zk_g1 (by omega) ho) rfl ⟨by decide, by decide⟩ (Nat.le_of_ble_eq_true rfl) ⟨by decide, by decide⟩ (sp_O_isInterface l (zo_at_set hO hio) ht ?_)
  refine zr_put C f_B_27 Y_B rfl rfl d_B_bind_14 (n := 17) rfl (zk_g0 hB) (Nat.le_of_ble_eq_true rfl) (fun _ _ => zk_nb _) (fun _ _ => zk_fb _) ?_
  rw [zk_sset]
  refine zr_aload_n C d_B_bind_17 (n := 18) rfl rfl ?_
  refine zr_aload_n C d_B_bind_18 (n := 19) rfl rfl ?_
  refine zr_getN C f_B_15 d_B_bind_19 (n := 22) rfl (zk_g1 (by omega) hU) rfl ?_
  refine zr_callV1 C k_B_30 d_B_bind_22 (nx := 25) rfl (zk_g1 (by omega) ho) rfl ⟨by decide, by decide⟩ (Nat.le_of_ble_eq_true rfl) ⟨by decide, by decide⟩ (sp_O_isThere l (zo_at_set hO hio) ht ?_)
  refine zr_if_eq C d_B_bind_25 (n := 28) rfl (t := 39) (by decide) (fun c1 => ?_) (fun c1 => ?_)
  · replace c1 := zk_bz c1
    refine zr_aload_n C d_B_bind_39 (n := 40) rfl rfl ?_
    refine zr_bipush C d_B_bind_40 (n := 42) rfl (v := -3) (by decide) ?_
    refine zr_put C f_B_36 Y_B rfl rfl d_B_bind_42 (n := 45) rfl (zk_g0 hB) (Nat.le_of_ble_eq_true rfl) (fun _ _ => rfl) (fun _ _ => rfl) ?_
    rw [zk_sset]
    exact zr_vret C d_B_bind_45 (by rw [zb_bind_no (by simp [c1])] at hK; exact hK) (Nat.zero_le _) (Nat.zero_le _)
  · replace c1 := zk_bn c1
    refine zr_aload_n C d_B_bind_28 (n := 29) rfl rfl ?_
    refine zr_aload_n C d_B_bind_29 (n := 30) rfl rfl ?_
    refine zr_getN C f_B_15 d_B_bind_30 (n := 33) rfl (zk_g1 (by omega) hU) rfl ?_
    refine zr_callV1 C k_B_33 d_B_bind_33 (nx := 36) rfl (zk_g1 (by omega) ho) rfl ⟨by decide, by decide⟩ (Nat.le_of_ble_eq_true rfl) ⟨by decide, by decide⟩ (sp_O_isHidden l (zo_at_set hO hio) ht ?_)
    refine zr_if_eq C d_B_bind_36 (n := 39) rfl (t := 46) (by decide) (fun c2 => ?_) (fun c2 => ?_)
    · replace c2 := zk_bz c2
      refine zr_aload_n C d_B_bind_46 (n := 47) rfl rfl ?_
      refine zr_getN C f_B_39 d_B_bind_47 (n := 50) rfl (zk_g1 (by omega) hU) rfl ?_
      have hsw : k = 0 ∨ k = 1 ∨ k = 2 ∨ k = 3 ∨ k = 4 ∨ k = 5 ∨ k = 6 := by omega
      rcases hsw with rfl | rfl | rfl | rfl | rfl | rfl | rfl
      · refine zr_tableIn C d_B_bind_50 (by decide) (by decide) (off := 38) (by decide) (t := 88) (by decide) ?_
        refine zr_aload_n C d_B_bind_88 (n := 89) rfl rfl ?_
        refine zr_aload_n C d_B_bind_89 (n := 90) rfl rfl ?_
        refine zr_aload_n C d_B_bind_90 (n := 91) rfl rfl ?_
        refine zr_aload_n C d_B_bind_91 (n := 92) rfl rfl ?_
        refine zr_callV2 C k_B_42 d_B_bind_92 (nx := 95) rfl (zk_g0 hB) rfl ⟨by decide, by decide⟩ (Nat.le_of_ble_eq_true rfl) ⟨by decide, by decide⟩ (sp_B_bindField l (B := zb_b1 O t B) (zk_g0 hB) (zk_g1 hiu hU) (zo_at_set hO hio) hw hiu hio ht (by decide) hnm ?_)
        rw [zk_sset]
        refine zr_put C f_B_36 Y_B rfl rfl d_B_bind_95 (n := 98) rfl (zk_g0 hB) (Nat.le_of_ble_eq_true rfl) (fun _ _ => rfl) (fun _ _ => rfl) ?_
        rw [zk_sset]
        refine zr_goto C d_B_bind_98 (t := 172) (by decide) ?_
        exact zr_vret C d_B_bind_172 (by rw [zb_bind_ok ⟨c1, c2⟩] at hK; exact hK) (Nat.zero_le _) (Nat.zero_le _)
      · refine zr_tableIn C d_B_bind_50 (by decide) (by decide) (off := 38) (by decide) (t := 88) (by decide) ?_
        refine zr_aload_n C d_B_bind_88 (n := 89) rfl rfl ?_
        refine zr_aload_n C d_B_bind_89 (n := 90) rfl rfl ?_
        refine zr_aload_n C d_B_bind_90 (n := 91) rfl rfl ?_
        refine zr_aload_n C d_B_bind_91 (n := 92) rfl rfl ?_
        refine zr_callV2 C k_B_42 d_B_bind_92 (nx := 95) rfl (zk_g0 hB) rfl ⟨by decide, by decide⟩ (Nat.le_of_ble_eq_true rfl) ⟨by decide, by decide⟩ (sp_B_bindField l (B := zb_b1 O t B) (zk_g0 hB) (zk_g1 hiu hU) (zo_at_set hO hio) hw hiu hio ht (by decide) hnm ?_)
        rw [zk_sset]
        refine zr_put C f_B_36 Y_B rfl rfl d_B_bind_95 (n := 98) rfl (zk_g0 hB) (Nat.le_of_ble_eq_true rfl) (fun _ _ => rfl) (fun _ _ => rfl) ?_
        rw [zk_sset]
        refine zr_goto C d_B_bind_98 (t := 172) (by decide) ?_
        exact zr_vret C d_B_bind_172 (by rw [zb_bind_ok ⟨c1, c2⟩] at hK; exact hK) (Nat.zero_le _) (Nat.zero_le _)
      · refine zr_tableIn C d_B_bind_50 (by decide) (by decide) (off := 51) (by decide) (t := 101) (by decide) ?_
        have hm := hm (by decide)
        rw [hm.2.1] at hU
        refine zr_aload_n C d_B_bind_101 (n := 102) rfl rfl ?_
        refine zr_aload_n C d_B_bind_102 (n := 103) rfl rfl ?_
        refine zr_aload_n C d_B_bind_103 (n := 104) rfl rfl ?_
        refine zr_aload_n C d_B_bind_104 (n := 105) rfl rfl ?_
        refine zr_callV2 C k_B_46 d_B_bind_105 (nx := 108) rfl (zk_g0 hB) rfl ⟨by decide, by decide⟩ (Nat.le_of_ble_eq_true rfl) ⟨by decide, by decide⟩ (sp_B_bindCall l (B := zb_b1 O t B) (zk_g0 hB) (zk_g1 hiu hU) (zo_at_set hO hio) hw hiu hio ht (by decide) hm.1 hm.2.2 ?_)
        rw [zk_sset]
        refine zr_put C f_B_36 Y_B rfl rfl d_B_bind_108 (n := 111) rfl (zk_g0 hB) (Nat.le_of_ble_eq_true rfl) (fun _ _ => rfl) (fun _ _ => rfl) ?_
        rw [zk_sset]
        refine zr_goto C d_B_bind_111 (t := 172) (by decide) ?_
        exact zr_vret C d_B_bind_172 (by rw [zb_bind_ok ⟨c1, c2⟩] at hK; exact hK) (Nat.zero_le _) (Nat.zero_le _)
      · refine zr_tableIn C d_B_bind_50 (by decide) (by decide) (off := 51) (by decide) (t := 101) (by decide) ?_
        have hm := hm (by decide)
        rw [hm.2.1] at hU
        refine zr_aload_n C d_B_bind_101 (n := 102) rfl rfl ?_
        refine zr_aload_n C d_B_bind_102 (n := 103) rfl rfl ?_
        refine zr_aload_n C d_B_bind_103 (n := 104) rfl rfl ?_
        refine zr_aload_n C d_B_bind_104 (n := 105) rfl rfl ?_
        refine zr_callV2 C k_B_46 d_B_bind_105 (nx := 108) rfl (zk_g0 hB) rfl ⟨by decide, by decide⟩ (Nat.le_of_ble_eq_true rfl) ⟨by decide, by decide⟩ (sp_B_bindCall l (B := zb_b1 O t B) (zk_g0 hB) (zk_g1 hiu hU) (zo_at_set hO hio) hw hiu hio ht (by decide) hm.1 hm.2.2 ?_)
        rw [zk_sset]
        refine zr_put C f_B_36 Y_B rfl rfl d_B_bind_108 (n := 111) rfl (zk_g0 hB) (Nat.le_of_ble_eq_true rfl) (fun _ _ => rfl) (fun _ _ => rfl) ?_
        rw [zk_sset]
        refine zr_goto C d_B_bind_111 (t := 172) (by decide) ?_
        exact zr_vret C d_B_bind_172 (by rw [zb_bind_ok ⟨c1, c2⟩] at hK; exact hK) (Nat.zero_le _) (Nat.zero_le _)
      · refine zr_tableIn C d_B_bind_50 (by decide) (by decide) (off := 64) (by decide) (t := 114) (by decide) ?_
        refine zr_aload_n C d_B_bind_114 (n := 115) rfl rfl ?_
        refine zr_aload_n C d_B_bind_115 (n := 116) rfl rfl ?_
        refine zr_aload_n C d_B_bind_116 (n := 117) rfl rfl ?_
        refine zr_getN C f_B_15 d_B_bind_117 (n := 120) rfl (zk_g1 (by omega) hU) rfl ?_
        refine zr_callV1 C k_B_49 d_B_bind_120 (nx := 123) rfl (zk_g1 (by omega) ho) rfl ⟨by decide, by decide⟩ (Nat.le_of_ble_eq_true rfl) ⟨by decide, by decide⟩ (sp_O_isAbstract l (zo_at_set hO hio) ht ?_)
        refine zr_if_eq C d_B_bind_123 (n := 126) rfl (t := 131) (by decide) (fun c3 => ?_) (fun c3 => ?_)
        · replace c3 := zk_bz c3
          refine zr_iconst C d_B_bind_131 (n := 132) rfl (v := nI 0) (by decide) ?_
          refine zr_put C f_B_36 Y_B rfl rfl d_B_bind_132 (n := 135) rfl (zk_g0 hB) (Nat.le_of_ble_eq_true rfl) (fun _ _ => rfl) (fun _ _ => rfl) ?_
          rw [zk_sset]
          refine zr_goto C d_B_bind_135 (t := 172) (by decide) ?_
          exact zr_vret C d_B_bind_172 (by rw [zb_bind_ok ⟨c1, c2⟩] at hK; simp only [zb_kd, zb_if, c3, if_true, if_false, reduceCtorEq] at hK; exact hK) (Nat.zero_le _) (Nat.zero_le _)
        · replace c3 := zk_bn c3
          refine zr_bipush C d_B_bind_126 (n := 128) rfl (v := -5) (by decide) ?_
          refine zr_goto C d_B_bind_128 (t := 132) (by decide) ?_
          refine zr_put C f_B_36 Y_B rfl rfl d_B_bind_132 (n := 135) rfl (zk_g0 hB) (Nat.le_of_ble_eq_true rfl) (fun _ _ => rfl) (fun _ _ => rfl) ?_
          rw [zk_sset]
          refine zr_goto C d_B_bind_135 (t := 172) (by decide) ?_
          exact zr_vret C d_B_bind_172 (by rw [zb_bind_ok ⟨c1, c2⟩] at hK; simp only [zb_kd, zb_if, c3, if_true, if_false, reduceCtorEq] at hK; exact hK) (Nat.zero_le _) (Nat.zero_le _)
      · refine zr_tableIn C d_B_bind_50 (by decide) (by decide) (off := 88) (by decide) (t := 138) (by decide) ?_
        refine zr_aload_n C d_B_bind_138 (n := 139) rfl rfl ?_
        refine zr_aload_n C d_B_bind_139 (n := 140) rfl rfl ?_
        refine zr_aload_n C d_B_bind_140 (n := 141) rfl rfl ?_
        refine zr_getN C f_B_15 d_B_bind_141 (n := 144) rfl (zk_g1 (by omega) hU) rfl ?_
        refine zr_callV1 C k_B_52 d_B_bind_144 (nx := 147) rfl (zk_g1 (by omega) ho) rfl ⟨by decide, by decide⟩ (Nat.le_of_ble_eq_true rfl) ⟨by decide, by decide⟩ (sp_O_isFinal l (zo_at_set hO hio) ht ?_)
        refine zr_if_eq C d_B_bind_147 (n := 150) rfl (t := 155) (by decide) (fun c4 => ?_) (fun c4 => ?_)
        · replace c4 := zk_bz c4
          refine zr_iconst C d_B_bind_155 (n := 156) rfl (v := nI 0) (by decide) ?_
          refine zr_put C f_B_36 Y_B rfl rfl d_B_bind_156 (n := 159) rfl (zk_g0 hB) (Nat.le_of_ble_eq_true rfl) (fun _ _ => rfl) (fun _ _ => rfl) ?_
          rw [zk_sset]
          refine zr_goto C d_B_bind_159 (t := 172) (by decide) ?_
          exact zr_vret C d_B_bind_172 (by rw [zb_bind_ok ⟨c1, c2⟩] at hK; simp only [zb_kd, zb_if, c4, if_true, if_false, reduceCtorEq] at hK; exact hK) (Nat.zero_le _) (Nat.zero_le _)
        · replace c4 := zk_bn c4
          refine zr_bipush C d_B_bind_150 (n := 152) rfl (v := -5) (by decide) ?_
          refine zr_goto C d_B_bind_152 (t := 156) (by decide) ?_
          refine zr_put C f_B_36 Y_B rfl rfl d_B_bind_156 (n := 159) rfl (zk_g0 hB) (Nat.le_of_ble_eq_true rfl) (fun _ _ => rfl) (fun _ _ => rfl) ?_
          rw [zk_sset]
          refine zr_goto C d_B_bind_159 (t := 172) (by decide) ?_
          exact zr_vret C d_B_bind_172 (by rw [zb_bind_ok ⟨c1, c2⟩] at hK; simp only [zb_kd, zb_if, c4, if_true, if_false, reduceCtorEq] at hK; exact hK) (Nat.zero_le _) (Nat.zero_le _)
      · refine zr_tableOut C d_B_bind_50 (by decide) (t := 162) (by decide) ?_
        have hm := hm (by decide)
        rw [hm.2.1] at hU
        refine zr_aload_n C d_B_bind_162 (n := 163) rfl rfl ?_
        refine zr_aload_n C d_B_bind_163 (n := 164) rfl rfl ?_
        refine zr_aload_n C d_B_bind_164 (n := 165) rfl rfl ?_
        refine zr_aload_n C d_B_bind_165 (n := 166) rfl rfl ?_
        refine zr_callV2 C k_B_55 d_B_bind_166 (nx := 169) rfl (zk_g0 hB) rfl ⟨by decide, by decide⟩ (Nat.le_of_ble_eq_true rfl) ⟨by decide, by decide⟩ (sp_B_bindOverride l (B := zb_b1 O t B) (zk_g0 hB) (zk_g1 hiu hU) (zo_at_set hO hio) hw hiu hio ht hm.1 hm.2.2 ?_)
        rw [zk_sset]
        refine zr_put C f_B_36 Y_B rfl rfl d_B_bind_169 (n := 172) rfl (zk_g0 hB) (Nat.le_of_ble_eq_true rfl) (fun _ _ => rfl) (fun _ _ => rfl) ?_
        rw [zk_sset]
        exact zr_vret C d_B_bind_172 (by rw [zb_bind_ok ⟨c1, c2⟩] at hK; exact hK) (Nat.zero_le _) (Nat.zero_le _)
    · replace c2 := zk_bn c2
      refine zr_aload_n C d_B_bind_39 (n := 40) rfl rfl ?_
      refine zr_bipush C d_B_bind_40 (n := 42) rfl (v := -3) (by decide) ?_
      refine zr_put C f_B_36 Y_B rfl rfl d_B_bind_42 (n := 45) rfl (zk_g0 hB) (Nat.le_of_ble_eq_true rfl) (fun _ _ => rfl) (fun _ _ => rfl) ?_
      rw [zk_sset]
      exact zr_vret C d_B_bind_45 (by rw [zb_bind_no (by simp [c1, c2])] at hK; exact hK) (Nat.zero_le _) (Nat.zero_le _)
end
section
def zb_sf (B E : Nat → Int32) : Bool := decide (B 2 = E 2 ∧ B 3 = E 3 ∧ (if B 2 = 0 then B 5 = E 5 else B 4 = E 4))
def zb_sa (k : Nat) (B E : Nat → Int32) : Bool := match k with
  | 0 => zb_sf B E
  | 1 => zb_sf B E
  | 2 => decide (B 6 = E 6 ∧ B 7 = E 7 ∧ B 5 = E 5 ∧ B 1 = E 1)
  | 3 => decide (B 6 = E 6 ∧ B 7 = E 7 ∧ B 5 = E 5 ∧ B 1 = E 1)
  | 4 => true
  | 5 => decide (B 1 = E 1)
  | _ => decide (B 7 = E 7)
def zb_sv (O : zo_O) (t : Nat) (B : Nat → Int32) (r : Option Nat) : Bool := if zo_th O t = true then (match r with
  | none => false
  | some j => zb_nz (O 3 j) (nI 16) && decide (O 4 j = B 3 ∧ O 5 j = B 4)) else false
def zb_ff (O : zo_O) (k : Nat) (B : Nat → Int32) (r : Option Nat) : Int32 := match r with
  | none => -7
  | some j => if zb_nz (O 3 j) (nI 8) = true ∨ (k = 1 ∧ zb_nz (O 3 j) (nI 4) = true) then -8 else if zk_b (zb_nz (O 3 j) (nI 1)) = B 5 then nI 0 else -9
def zb_fc (O : zo_O) (t : Nat) (B : Nat → Int32) (r : Option Nat) : Int32 := if zk_b (zo_hf O t (nI 1)) = B 1 then (match r with
  | none => -7
  | some j => if zb_nz (O 6 j) (nI 8) = true then -8 else if zk_b (zb_nz (O 6 j) (nI 1)) = B 5 then (if nI (j / 12) = B 8 then nI 0 else nI 1) else -9) else -9
def zb_sb (O : zo_O) (t : Nat) (B : Nat → Int32) : Bool := zo_hf O t (nI 4) || decide (¬ zk_b (zo_hf O t (nI 1)) = B 1)
def zb_fo (O : zo_O) (t : Nat) (B : Nat → Int32) (r : Option Nat) : Int32 := if zb_sb O t B = true then -9 else match r with
  | none => nI 3
  | some j => if zb_nz (O 6 j) (nI 8) = true then nI 3 else if zb_nz (O 6 j) (nI 5) = true then -9 else if O 7 j = B 7 then nI 0 else nI 3
def zb_fw (O : zo_O) (k t nm ag pa : Nat) (B : Nat → Int32) : Int32 := if B 2 = 0 then (if zo_th O t = true then (if zo_hf O t (nI 8) = true then -8 else match k with
  | 0 => zb_ff O 0 B (zb_pl (zo_ff O nm (B 3) 6 t))
  | 1 => zb_ff O 1 B (zb_pl (zo_ff O nm (B 3) 6 t))
  | 2 => zb_fc O t B (zb_pl (zo_fm O t nm pa (B 7)))
  | 3 => zb_fc O t B (zb_pl (zo_fm O t nm pa (B 7)))
  | 4 => if zo_hf O t (nI 3) = true then -9 else nI 0
  | 5 => if zb_sb O t B = true then -9 else nI 0
  | _ => zb_fo O t B (zb_pl (zo_fm O t nm ag (-1)))) else -6) else if zb_sv O t B (zb_pl (zo_ff O nm (-1) 6 t)) = true then nI 0 else nI 2
abbrev rm_B_isSameField : Room := { frames := 0, cells := 0, slots := 0, locals := 0 }
set_option maxHeartbeats 4000000 in
set_option maxRecDepth 100000 in
/-- isSameField -/
theorem sp_B_isSameField (l : Launch) {h : zk_H} {i u : Nat} {B E : Nat → Int32} (hB : h[i]? = some (zb_c B)) (hE : h[u]? = some (zb_c E)) {K : Option Value → zk_H → Prop} (hK : K (some (.int (zk_b (zb_sf B E)))) h) : zk_S l y_B_isSameField b_B_isSameField 2 (some .boolean) rm_B_isSameField [.ref (i + 1), .ref (u + 1)] h K := by
  refine zk_S_of R_B "isSameField" (by decide) rfl rfl [some (.ref (i + 1)), some (.ref (u + 1))] 0 rfl (Nat.le_of_ble_eq_true rfl) (fun p e s m ar below meth c D dA b base C => ?_)
  refine zr_aload_n C d_B_isSameField_0 (n := 1) rfl rfl ?_
  refine zr_get C f_B_9 d_B_isSameField_1 (n := 4) rfl hB rfl ?_
  refine zr_aload_n C d_B_isSameField_4 (n := 5) rfl rfl ?_
  refine zr_get C f_B_9 d_B_isSameField_5 (n := 8) rfl hE rfl ?_
  refine zr_icmp_ne C d_B_isSameField_8 (n := 11) rfl (t := 22) (by decide) (fun c1 => ?_) (fun c1 => ?_)
  · refine zr_iconst C d_B_isSameField_22 (n := 23) rfl (v := nI 0) (by decide) ?_
    exact zr_zret C d_B_isSameField_23 (by first | (simp [zb_sf, zk_b, c1]; done) | simp_all [zb_sf, zk_b]) (by decide) hK (Nat.zero_le _) (Nat.zero_le _)
  · refine zr_aload_n C d_B_isSameField_11 (n := 12) rfl rfl ?_
    refine zr_get C f_B_72 d_B_isSameField_12 (n := 15) rfl hB rfl ?_
    refine zr_aload_n C d_B_isSameField_15 (n := 16) rfl rfl ?_
    refine zr_get C f_B_72 d_B_isSameField_16 (n := 19) rfl hE rfl ?_
    refine zr_icmp_eq C d_B_isSameField_19 (n := 22) rfl (t := 24) (by decide) (fun c2 => ?_) (fun c2 => ?_)
    · refine zr_aload_n C d_B_isSameField_24 (n := 25) rfl rfl ?_
      refine zr_get C f_B_9 d_B_isSameField_25 (n := 28) rfl hB rfl ?_
      refine zr_if_eq C d_B_isSameField_28 (n := 31) rfl (t := 50) (by decide) (fun c3 => ?_) (fun c3 => ?_)
      · refine zr_aload_n C d_B_isSameField_50 (n := 51) rfl rfl ?_
        refine zr_get C f_B_80 d_B_isSameField_51 (n := 54) rfl hB rfl ?_
        refine zr_aload_n C d_B_isSameField_54 (n := 55) rfl rfl ?_
        refine zr_get C f_B_80 d_B_isSameField_55 (n := 58) rfl hE rfl ?_
        refine zr_icmp_ne C d_B_isSameField_58 (n := 61) rfl (t := 65) (by decide) (fun c4 => ?_) (fun c4 => ?_)
        · refine zr_iconst C d_B_isSameField_65 (n := 66) rfl (v := nI 0) (by decide) ?_
          exact zr_zret C d_B_isSameField_66 (by first | (simp [zb_sf, zk_b, c1, c2, c3, c4]; done) | simp_all [zb_sf, zk_b]) (by decide) hK (Nat.zero_le _) (Nat.zero_le _)
        · refine zr_iconst C d_B_isSameField_61 (n := 62) rfl (v := nI 1) (by decide) ?_
          refine zr_goto C d_B_isSameField_62 (t := 66) (by decide) ?_
          exact zr_zret C d_B_isSameField_66 (by first | (simp [zb_sf, zk_b, c1, c2, c3, c4]; done) | simp_all [zb_sf, zk_b]) (by decide) hK (Nat.zero_le _) (Nat.zero_le _)
      · refine zr_aload_n C d_B_isSameField_31 (n := 32) rfl rfl ?_
        refine zr_get C f_B_77 d_B_isSameField_32 (n := 35) rfl hB rfl ?_
        refine zr_aload_n C d_B_isSameField_35 (n := 36) rfl rfl ?_
        refine zr_get C f_B_77 d_B_isSameField_36 (n := 39) rfl hE rfl ?_
        refine zr_icmp_ne C d_B_isSameField_39 (n := 42) rfl (t := 46) (by decide) (fun c5 => ?_) (fun c5 => ?_)
        · refine zr_iconst C d_B_isSameField_46 (n := 47) rfl (v := nI 0) (by decide) ?_
          refine zr_goto C d_B_isSameField_47 (t := 66) (by decide) ?_
          exact zr_zret C d_B_isSameField_66 (by first | (simp [zb_sf, zk_b, c1, c2, c3, c5]; done) | simp_all [zb_sf, zk_b]) (by decide) hK (Nat.zero_le _) (Nat.zero_le _)
        · refine zr_iconst C d_B_isSameField_42 (n := 43) rfl (v := nI 1) (by decide) ?_
          refine zr_goto C d_B_isSameField_43 (t := 66) (by decide) ?_
          exact zr_zret C d_B_isSameField_66 (by first | (simp [zb_sf, zk_b, c1, c2, c3, c5]; done) | simp_all [zb_sf, zk_b]) (by decide) hK (Nat.zero_le _) (Nat.zero_le _)
    · refine zr_iconst C d_B_isSameField_22 (n := 23) rfl (v := nI 0) (by decide) ?_
      exact zr_zret C d_B_isSameField_23 (by first | (simp [zb_sf, zk_b, c1, c2]; done) | simp_all [zb_sf, zk_b]) (by decide) hK (Nat.zero_le _) (Nat.zero_le _)
abbrev rm_B_isSameAs : Room := { frames := 1, cells := 0, slots := 0, locals := 21 }
set_option maxHeartbeats 4000000 in
set_option maxRecDepth 100000 in
/-- isSameAs -/
theorem sp_B_isSameAs (l : Launch) {h : zk_H} {i u : Nat} {B E : Nat → Int32} (hB : h[i]? = some (zb_c B)) (hE : h[u]? = some (zb_c E)) {k : Nat} (hk : k < 7) {K : Option Value → zk_H → Prop} (hK : K (some (.int (zk_b (zb_sa k B E)))) h) : zk_S l y_B_isSameAs b_B_isSameAs 3 (some .boolean) rm_B_isSameAs [.ref (i + 1), .ref (u + 1), .int (nI k)] h K := by
  refine zk_S_of R_B "isSameAs" (by decide) rfl rfl [some (.ref (i + 1)), some (.ref (u + 1)), some (.int (nI k))] 0 rfl (Nat.le_of_ble_eq_true rfl) (fun p e s m ar below meth c D dA b base C => ?_)
  refine zr_iload_n C d_B_isSameAs_0 (n := 1) rfl rfl ?_
  have hsw : k = 0 ∨ k = 1 ∨ k = 2 ∨ k = 3 ∨ k = 4 ∨ k = 5 ∨ k = 6 := by omega
  rcases hsw with rfl | rfl | rfl | rfl | rfl | rfl | rfl
  · refine zr_tableIn C d_B_isSameAs_1 (by decide) (by decide) (off := 43) (by decide) (t := 44) (by decide) ?_
    refine zr_aload_n C d_B_isSameAs_44 (n := 45) rfl rfl ?_
    refine zr_aload_n C d_B_isSameAs_45 (n := 46) rfl rfl ?_
    refine zr_callV1 C k_B_109 d_B_isSameAs_46 (nx := 49) rfl hB rfl ⟨by decide, by decide⟩ (Nat.le_of_ble_eq_true rfl) ⟨by decide, by decide⟩ (sp_B_isSameField l hB hE ?_)
    exact zr_zret C d_B_isSameAs_49 rfl (zk_nb _) hK (Nat.zero_le _) (Nat.zero_le _)
  · refine zr_tableIn C d_B_isSameAs_1 (by decide) (by decide) (off := 43) (by decide) (t := 44) (by decide) ?_
    refine zr_aload_n C d_B_isSameAs_44 (n := 45) rfl rfl ?_
    refine zr_aload_n C d_B_isSameAs_45 (n := 46) rfl rfl ?_
    refine zr_callV1 C k_B_109 d_B_isSameAs_46 (nx := 49) rfl hB rfl ⟨by decide, by decide⟩ (Nat.le_of_ble_eq_true rfl) ⟨by decide, by decide⟩ (sp_B_isSameField l hB hE ?_)
    exact zr_zret C d_B_isSameAs_49 rfl (zk_nb _) hK (Nat.zero_le _) (Nat.zero_le _)
  · refine zr_tableIn C d_B_isSameAs_1 (by decide) (by decide) (off := 49) (by decide) (t := 50) (by decide) ?_
    refine zr_aload_n C d_B_isSameAs_50 (n := 51) rfl rfl ?_
    refine zr_get C f_B_97 d_B_isSameAs_51 (n := 54) rfl hB rfl ?_
    refine zr_aload_n C d_B_isSameAs_54 (n := 55) rfl rfl ?_
    refine zr_get C f_B_97 d_B_isSameAs_55 (n := 58) rfl hE rfl ?_
    refine zr_icmp_ne C d_B_isSameAs_58 (n := 61) rfl (t := 98) (by decide) (fun c1 => ?_) (fun c1 => ?_)
    · refine zr_iconst C d_B_isSameAs_98 (n := 99) rfl (v := nI 0) (by decide) ?_
      exact zr_zret C d_B_isSameAs_99 (by simp [zb_sa, zk_b, c1]) (by decide) hK (Nat.zero_le _) (Nat.zero_le _)
    · refine zr_aload_n C d_B_isSameAs_61 (n := 62) rfl rfl ?_
      refine zr_get C f_B_103 d_B_isSameAs_62 (n := 65) rfl hB rfl ?_
      refine zr_aload_n C d_B_isSameAs_65 (n := 66) rfl rfl ?_
      refine zr_get C f_B_103 d_B_isSameAs_66 (n := 69) rfl hE rfl ?_
      refine zr_icmp_ne C d_B_isSameAs_69 (n := 72) rfl (t := 98) (by decide) (fun c2 => ?_) (fun c2 => ?_)
      · refine zr_iconst C d_B_isSameAs_98 (n := 99) rfl (v := nI 0) (by decide) ?_
        exact zr_zret C d_B_isSameAs_99 (by simp [zb_sa, zk_b, c1, c2]) (by decide) hK (Nat.zero_le _) (Nat.zero_le _)
      · refine zr_aload_n C d_B_isSameAs_72 (n := 73) rfl rfl ?_
        refine zr_get C f_B_80 d_B_isSameAs_73 (n := 76) rfl hB rfl ?_
        refine zr_aload_n C d_B_isSameAs_76 (n := 77) rfl rfl ?_
        refine zr_get C f_B_80 d_B_isSameAs_77 (n := 80) rfl hE rfl ?_
        refine zr_icmp_ne C d_B_isSameAs_80 (n := 83) rfl (t := 98) (by decide) (fun c3 => ?_) (fun c3 => ?_)
        · refine zr_iconst C d_B_isSameAs_98 (n := 99) rfl (v := nI 0) (by decide) ?_
          exact zr_zret C d_B_isSameAs_99 (by simp [zb_sa, zk_b, c1, c2, c3]) (by decide) hK (Nat.zero_le _) (Nat.zero_le _)
        · refine zr_aload_n C d_B_isSameAs_83 (n := 84) rfl rfl ?_
          refine zr_get C f_B_27 d_B_isSameAs_84 (n := 87) rfl hB rfl ?_
          refine zr_aload_n C d_B_isSameAs_87 (n := 88) rfl rfl ?_
          refine zr_get C f_B_27 d_B_isSameAs_88 (n := 91) rfl hE rfl ?_
          refine zr_icmp_ne C d_B_isSameAs_91 (n := 94) rfl (t := 98) (by decide) (fun c4 => ?_) (fun c4 => ?_)
          · refine zr_iconst C d_B_isSameAs_98 (n := 99) rfl (v := nI 0) (by decide) ?_
            exact zr_zret C d_B_isSameAs_99 (by simp [zb_sa, zk_b, c1, c2, c3, c4]) (by decide) hK (Nat.zero_le _) (Nat.zero_le _)
          · refine zr_iconst C d_B_isSameAs_94 (n := 95) rfl (v := nI 1) (by decide) ?_
            refine zr_goto C d_B_isSameAs_95 (t := 99) (by decide) ?_
            exact zr_zret C d_B_isSameAs_99 (by simp [zb_sa, zk_b, c1, c2, c3, c4]) (by decide) hK (Nat.zero_le _) (Nat.zero_le _)
  · refine zr_tableIn C d_B_isSameAs_1 (by decide) (by decide) (off := 49) (by decide) (t := 50) (by decide) ?_
    refine zr_aload_n C d_B_isSameAs_50 (n := 51) rfl rfl ?_
    refine zr_get C f_B_97 d_B_isSameAs_51 (n := 54) rfl hB rfl ?_
    refine zr_aload_n C d_B_isSameAs_54 (n := 55) rfl rfl ?_
    refine zr_get C f_B_97 d_B_isSameAs_55 (n := 58) rfl hE rfl ?_
    refine zr_icmp_ne C d_B_isSameAs_58 (n := 61) rfl (t := 98) (by decide) (fun c5 => ?_) (fun c5 => ?_)
    · refine zr_iconst C d_B_isSameAs_98 (n := 99) rfl (v := nI 0) (by decide) ?_
      exact zr_zret C d_B_isSameAs_99 (by simp [zb_sa, zk_b, c5]) (by decide) hK (Nat.zero_le _) (Nat.zero_le _)
    · refine zr_aload_n C d_B_isSameAs_61 (n := 62) rfl rfl ?_
      refine zr_get C f_B_103 d_B_isSameAs_62 (n := 65) rfl hB rfl ?_
      refine zr_aload_n C d_B_isSameAs_65 (n := 66) rfl rfl ?_
      refine zr_get C f_B_103 d_B_isSameAs_66 (n := 69) rfl hE rfl ?_
      refine zr_icmp_ne C d_B_isSameAs_69 (n := 72) rfl (t := 98) (by decide) (fun c6 => ?_) (fun c6 => ?_)
      · refine zr_iconst C d_B_isSameAs_98 (n := 99) rfl (v := nI 0) (by decide) ?_
        exact zr_zret C d_B_isSameAs_99 (by simp [zb_sa, zk_b, c5, c6]) (by decide) hK (Nat.zero_le _) (Nat.zero_le _)
      · refine zr_aload_n C d_B_isSameAs_72 (n := 73) rfl rfl ?_
        refine zr_get C f_B_80 d_B_isSameAs_73 (n := 76) rfl hB rfl ?_
        refine zr_aload_n C d_B_isSameAs_76 (n := 77) rfl rfl ?_
        refine zr_get C f_B_80 d_B_isSameAs_77 (n := 80) rfl hE rfl ?_
        refine zr_icmp_ne C d_B_isSameAs_80 (n := 83) rfl (t := 98) (by decide) (fun c7 => ?_) (fun c7 => ?_)
        · refine zr_iconst C d_B_isSameAs_98 (n := 99) rfl (v := nI 0) (by decide) ?_
          exact zr_zret C d_B_isSameAs_99 (by simp [zb_sa, zk_b, c5, c6, c7]) (by decide) hK (Nat.zero_le _) (Nat.zero_le _)
        · refine zr_aload_n C d_B_isSameAs_83 (n := 84) rfl rfl ?_
          refine zr_get C f_B_27 d_B_isSameAs_84 (n := 87) rfl hB rfl ?_
          refine zr_aload_n C d_B_isSameAs_87 (n := 88) rfl rfl ?_
          refine zr_get C f_B_27 d_B_isSameAs_88 (n := 91) rfl hE rfl ?_
          refine zr_icmp_ne C d_B_isSameAs_91 (n := 94) rfl (t := 98) (by decide) (fun c8 => ?_) (fun c8 => ?_)
          · refine zr_iconst C d_B_isSameAs_98 (n := 99) rfl (v := nI 0) (by decide) ?_
            exact zr_zret C d_B_isSameAs_99 (by simp [zb_sa, zk_b, c5, c6, c7, c8]) (by decide) hK (Nat.zero_le _) (Nat.zero_le _)
          · refine zr_iconst C d_B_isSameAs_94 (n := 95) rfl (v := nI 1) (by decide) ?_
            refine zr_goto C d_B_isSameAs_95 (t := 99) (by decide) ?_
            exact zr_zret C d_B_isSameAs_99 (by simp [zb_sa, zk_b, c5, c6, c7, c8]) (by decide) hK (Nat.zero_le _) (Nat.zero_le _)
  · refine zr_tableIn C d_B_isSameAs_1 (by decide) (by decide) (off := 133) (by decide) (t := 134) (by decide) ?_
    refine zr_iconst C d_B_isSameAs_134 (n := 135) rfl (v := nI 1) (by decide) ?_
    exact zr_zret C d_B_isSameAs_135 (by simp [zb_sa, zk_b]) (by decide) hK (Nat.zero_le _) (Nat.zero_le _)
  · refine zr_tableIn C d_B_isSameAs_1 (by decide) (by decide) (off := 99) (by decide) (t := 100) (by decide) ?_
    refine zr_aload_n C d_B_isSameAs_100 (n := 101) rfl rfl ?_
    refine zr_get C f_B_27 d_B_isSameAs_101 (n := 104) rfl hB rfl ?_
    refine zr_aload_n C d_B_isSameAs_104 (n := 105) rfl rfl ?_
    refine zr_get C f_B_27 d_B_isSameAs_105 (n := 108) rfl hE rfl ?_
    refine zr_icmp_ne C d_B_isSameAs_108 (n := 111) rfl (t := 115) (by decide) (fun c9 => ?_) (fun c9 => ?_)
    · refine zr_iconst C d_B_isSameAs_115 (n := 116) rfl (v := nI 0) (by decide) ?_
      exact zr_zret C d_B_isSameAs_116 (by simp [zb_sa, zk_b, c9]) (by decide) hK (Nat.zero_le _) (Nat.zero_le _)
    · refine zr_iconst C d_B_isSameAs_111 (n := 112) rfl (v := nI 1) (by decide) ?_
      refine zr_goto C d_B_isSameAs_112 (t := 116) (by decide) ?_
      exact zr_zret C d_B_isSameAs_116 (by simp [zb_sa, zk_b, c9]) (by decide) hK (Nat.zero_le _) (Nat.zero_le _)
  · refine zr_tableIn C d_B_isSameAs_1 (by decide) (by decide) (off := 116) (by decide) (t := 117) (by decide) ?_
    refine zr_aload_n C d_B_isSameAs_117 (n := 118) rfl rfl ?_
    refine zr_get C f_B_103 d_B_isSameAs_118 (n := 121) rfl hB rfl ?_
    refine zr_aload_n C d_B_isSameAs_121 (n := 122) rfl rfl ?_
    refine zr_get C f_B_103 d_B_isSameAs_122 (n := 125) rfl hE rfl ?_
    refine zr_icmp_ne C d_B_isSameAs_125 (n := 128) rfl (t := 132) (by decide) (fun c10 => ?_) (fun c10 => ?_)
    · refine zr_iconst C d_B_isSameAs_132 (n := 133) rfl (v := nI 0) (by decide) ?_
      exact zr_zret C d_B_isSameAs_133 (by simp [zb_sa, zk_b, c10]) (by decide) hK (Nat.zero_le _) (Nat.zero_le _)
    · refine zr_iconst C d_B_isSameAs_128 (n := 129) rfl (v := nI 1) (by decide) ?_
      refine zr_goto C d_B_isSameAs_129 (t := 133) (by decide) ?_
      exact zr_zret C d_B_isSameAs_133 (by simp [zb_sa, zk_b, c10]) (by decide) hK (Nat.zero_le _) (Nat.zero_le _)
abbrev rm_B_isStillValue : Room := { frames := 9, cells := 0, slots := 0, locals := 242 }
set_option maxHeartbeats 4000000 in
set_option maxRecDepth 100000 in
/-- isStillValue -/
theorem sp_B_isStillValue (l : Launch) {h : zk_H} {i u o : Nat} {B : Nat → Int32} {k t nm : Nat} {a : Int32} {O : zo_O} (hB : h[i]? = some (zb_c B)) (hU : h[u]? = some (zu_c k t nm a)) (hO : zo_at h o O) (hw : zo_wf O) (ht : t < 6) (hnm : nm < 4) {K : Option Value → zk_H → Prop} (hK : K (some (.int (zk_b (zb_sv O t B (zb_pl (zo_ff O nm (-1) 6 t)))))) h) : zk_S l y_B_isStillValue b_B_isStillValue 4 (some .boolean) rm_B_isStillValue [.ref (i + 1), .ref (u + 1), .ref (o + 1)] h K := by
  obtain ⟨ho, a0, a1, a2, a3, a4, a5, a6, a7⟩ := id hO
  refine zk_S_of R_B "isStillValue" (by decide) rfl rfl [some (.ref (i + 1)), some (.ref (u + 1)), some (.ref (o + 1)), none] 1 rfl (Nat.le_of_ble_eq_true rfl) (fun p e s m ar below meth c D dA b base C => ?_)
  rcases zo_ff_pl hw hnm (kd := -1) 6 t ht with e | ⟨j, hj, e⟩
  · refine zr_aload_n C d_B_isStillValue_0 (n := 1) rfl rfl ?_
    refine zr_aload_n C d_B_isStillValue_1 (n := 2) rfl rfl ?_
    refine zr_getN C f_B_15 d_B_isStillValue_2 (n := 5) rfl hU rfl ?_
    refine zr_callV1 C k_B_30 d_B_isStillValue_5 (nx := 8) rfl ho rfl ⟨by decide, by decide⟩ (Nat.le_of_ble_eq_true rfl) ⟨by decide, by decide⟩ (sp_O_isThere l hO ht ?_)
    refine zr_if_ne C d_B_isStillValue_8 (n := 11) rfl (t := 13) (by decide) (fun c1 => ?_) (fun c1 => ?_)
    · replace c1 := zk_bn c1
      refine zr_aload_n C d_B_isStillValue_13 (n := 14) rfl rfl ?_
      refine zr_aload_n C d_B_isStillValue_14 (n := 15) rfl rfl ?_
      refine zr_getN C f_B_15 d_B_isStillValue_15 (n := 18) rfl hU rfl ?_
      refine zr_aload_n C d_B_isStillValue_18 (n := 19) rfl rfl ?_
      refine zr_getN C f_B_58 d_B_isStillValue_19 (n := 22) rfl hU rfl ?_
      refine zr_iconst C d_B_isStillValue_22 (n := 23) rfl (v := -1) (by decide) ?_
      refine zr_callV3 C k_B_61 d_B_isStillValue_23 (nx := 26) rfl ho rfl ⟨by decide, by decide⟩ (Nat.le_of_ble_eq_true rfl) ⟨by decide, by decide⟩ (sp_O_findField l hO hw ht hnm ?_)
      refine zr_toe (y := -1) e ?_
      refine zr_istore_n C d_B_isStillValue_26 (n := 27) rfl (by decide) rfl ?_
      refine zr_iload_n C d_B_isStillValue_27 (n := 28) rfl rfl ?_
      refine zr_iconst C d_B_isStillValue_28 (n := 29) rfl (v := -1) (by decide) ?_
      refine zr_icmp_eq C d_B_isStillValue_29 (n := 32) rfl (t := 44) (by decide) (fun c2 => ?_) (fun c2 => ?_)
      · refine zr_iconst C d_B_isStillValue_44 (n := 45) rfl (v := nI 0) (by decide) ?_
        exact zr_zret C d_B_isStillValue_45 (by simp [zb_sv, zk_b, e, zb_pl_n, c1, c2]) (by decide) hK (Nat.zero_le _) (Nat.zero_le _)
      · exact absurd rfl c2
    · replace c1 := zk_bz c1
      refine zr_iconst C d_B_isStillValue_11 (n := 12) rfl (v := nI 0) (by decide) ?_
      exact zr_zret C d_B_isStillValue_12 (by simp [zb_sv, zk_b, e, zb_pl_n, c1]) (by decide) hK (Nat.zero_le _) (Nat.zero_le _)
  · refine zr_aload_n C d_B_isStillValue_0 (n := 1) rfl rfl ?_
    refine zr_aload_n C d_B_isStillValue_1 (n := 2) rfl rfl ?_
    refine zr_getN C f_B_15 d_B_isStillValue_2 (n := 5) rfl hU rfl ?_
    refine zr_callV1 C k_B_30 d_B_isStillValue_5 (nx := 8) rfl ho rfl ⟨by decide, by decide⟩ (Nat.le_of_ble_eq_true rfl) ⟨by decide, by decide⟩ (sp_O_isThere l hO ht ?_)
    refine zr_if_ne C d_B_isStillValue_8 (n := 11) rfl (t := 13) (by decide) (fun c1 => ?_) (fun c1 => ?_)
    · replace c1 := zk_bn c1
      refine zr_aload_n C d_B_isStillValue_13 (n := 14) rfl rfl ?_
      refine zr_aload_n C d_B_isStillValue_14 (n := 15) rfl rfl ?_
      refine zr_getN C f_B_15 d_B_isStillValue_15 (n := 18) rfl hU rfl ?_
      refine zr_aload_n C d_B_isStillValue_18 (n := 19) rfl rfl ?_
      refine zr_getN C f_B_58 d_B_isStillValue_19 (n := 22) rfl hU rfl ?_
      refine zr_iconst C d_B_isStillValue_22 (n := 23) rfl (v := -1) (by decide) ?_
      refine zr_callV3 C k_B_61 d_B_isStillValue_23 (nx := 26) rfl ho rfl ⟨by decide, by decide⟩ (Nat.le_of_ble_eq_true rfl) ⟨by decide, by decide⟩ (sp_O_findField l hO hw ht hnm ?_)
      refine zr_toe (y := nI j) e ?_
      refine zr_istore_n C d_B_isStillValue_26 (n := 27) rfl (by decide) rfl ?_
      refine zr_iload_n C d_B_isStillValue_27 (n := 28) rfl rfl ?_
      refine zr_iconst C d_B_isStillValue_28 (n := 29) rfl (v := -1) (by decide) ?_
      refine zr_icmp_eq C d_B_isStillValue_29 (n := 32) rfl (t := 44) (by decide) (fun c2 => ?_) (fun c2 => ?_)
      · exact absurd c2 (zk_nm1 (by omega))
      · refine zr_aload_n C d_B_isStillValue_32 (n := 33) rfl rfl ?_
        refine zr_getN C f_B_65 d_B_isStillValue_33 (n := 36) rfl ho rfl ?_
        refine zr_iload_n C d_B_isStillValue_36 (n := 37) rfl rfl ?_
        refine zr_ialdN C d_B_isStillValue_37 (n := 38) rfl a3 rfl (by omega) (by decide) ?_
        refine zr_bipush C d_B_isStillValue_38 (n := 40) rfl (v := nI 16) (by decide) ?_
        refine zr_iand C d_B_isStillValue_40 (n := 41) rfl ?_
        refine zr_if_ne C d_B_isStillValue_41 (n := 44) rfl (t := 46) (by decide) (fun c3 => ?_) (fun c3 => ?_)
        · replace c3 := zb_nzt c3
          refine zr_aload_n C d_B_isStillValue_46 (n := 47) rfl rfl ?_
          refine zr_getN C f_B_69 d_B_isStillValue_47 (n := 50) rfl ho rfl ?_
          refine zr_iload_n C d_B_isStillValue_50 (n := 51) rfl rfl ?_
          refine zr_ialdN C d_B_isStillValue_51 (n := 52) rfl a4 rfl (by omega) (by decide) ?_
          refine zr_aload_n C d_B_isStillValue_52 (n := 53) rfl rfl ?_
          refine zr_get C f_B_72 d_B_isStillValue_53 (n := 56) rfl hB rfl ?_
          refine zr_icmp_ne C d_B_isStillValue_56 (n := 59) rfl (t := 76) (by decide) (fun c4 => ?_) (fun c4 => ?_)
          · refine zr_iconst C d_B_isStillValue_76 (n := 77) rfl (v := nI 0) (by decide) ?_
            exact zr_zret C d_B_isStillValue_77 (by simp [zb_sv, zk_b, e, zb_pl_s (show j < 2147483648 by omega), c1, c2, c3, c4]) (by decide) hK (Nat.zero_le _) (Nat.zero_le _)
          · refine zr_aload_n C d_B_isStillValue_59 (n := 60) rfl rfl ?_
            refine zr_getN C f_B_74 d_B_isStillValue_60 (n := 63) rfl ho rfl ?_
            refine zr_iload_n C d_B_isStillValue_63 (n := 64) rfl rfl ?_
            refine zr_ialdN C d_B_isStillValue_64 (n := 65) rfl a5 rfl (by omega) (by decide) ?_
            refine zr_aload_n C d_B_isStillValue_65 (n := 66) rfl rfl ?_
            refine zr_get C f_B_77 d_B_isStillValue_66 (n := 69) rfl hB rfl ?_
            refine zr_icmp_ne C d_B_isStillValue_69 (n := 72) rfl (t := 76) (by decide) (fun c5 => ?_) (fun c5 => ?_)
            · refine zr_iconst C d_B_isStillValue_76 (n := 77) rfl (v := nI 0) (by decide) ?_
              exact zr_zret C d_B_isStillValue_77 (by simp [zb_sv, zk_b, e, zb_pl_s (show j < 2147483648 by omega), c1, c2, c3, c4, c5]) (by decide) hK (Nat.zero_le _) (Nat.zero_le _)
            · refine zr_iconst C d_B_isStillValue_72 (n := 73) rfl (v := nI 1) (by decide) ?_
              refine zr_goto C d_B_isStillValue_73 (t := 77) (by decide) ?_
              exact zr_zret C d_B_isStillValue_77 (by simp [zb_sv, zk_b, e, zb_pl_s (show j < 2147483648 by omega), c1, c2, c3, c4, c5]) (by decide) hK (Nat.zero_le _) (Nat.zero_le _)
        · replace c3 := zb_nzf c3
          refine zr_iconst C d_B_isStillValue_44 (n := 45) rfl (v := nI 0) (by decide) ?_
          exact zr_zret C d_B_isStillValue_45 (by simp [zb_sv, zk_b, e, zb_pl_s (show j < 2147483648 by omega), c1, c2, c3]) (by decide) hK (Nat.zero_le _) (Nat.zero_le _)
    · replace c1 := zk_bz c1
      refine zr_iconst C d_B_isStillValue_11 (n := 12) rfl (v := nI 0) (by decide) ?_
      exact zr_zret C d_B_isStillValue_12 (by simp [zb_sv, zk_b, e, zb_pl_s (show j < 2147483648 by omega), c1]) (by decide) hK (Nat.zero_le _) (Nat.zero_le _)
abbrev rm_B_fateOfField : Room := { frames := 9, cells := 0, slots := 0, locals := 242 }
set_option maxHeartbeats 4000000 in
set_option maxRecDepth 100000 in
/-- fateOfField -/
theorem sp_B_fateOfField (l : Launch) {h : zk_H} {i u o : Nat} {B : Nat → Int32} {k t nm : Nat} {a : Int32} {O : zo_O} (hB : h[i]? = some (zb_c B)) (hU : h[u]? = some (zu_c k t nm a)) (hO : zo_at h o O) (hw : zo_wf O) (ht : t < 6) (hk : k < 7) (hnm : nm < 4) {K : Option Value → zk_H → Prop} (hK : K (some (.int (zb_ff O k B (zb_pl (zo_ff O nm (B 3) 6 t))))) h) : zk_S l y_B_fateOfField b_B_fateOfField 5 (some .int) rm_B_fateOfField [.ref (i + 1), .ref (u + 1), .ref (o + 1)] h K := by
  obtain ⟨ho, a0, a1, a2, a3, a4, a5, a6, a7⟩ := id hO
  refine zk_S_of R_B "fateOfField" (by decide) rfl rfl [some (.ref (i + 1)), some (.ref (u + 1)), some (.ref (o + 1)), none, none] 2 rfl (Nat.le_of_ble_eq_true rfl) (fun p e s m ar below meth c D dA b base C => ?_)
  rcases zo_ff_pl hw hnm (kd := B 3) 6 t ht with e | ⟨j, hj, e⟩
  · refine zr_aload_n C d_B_fateOfField_0 (n := 1) rfl rfl ?_
    refine zr_aload_n C d_B_fateOfField_1 (n := 2) rfl rfl ?_
    refine zr_getN C f_B_15 d_B_fateOfField_2 (n := 5) rfl hU rfl ?_
    refine zr_aload_n C d_B_fateOfField_5 (n := 6) rfl rfl ?_
    refine zr_getN C f_B_58 d_B_fateOfField_6 (n := 9) rfl hU rfl ?_
    refine zr_aload_n C d_B_fateOfField_9 (n := 10) rfl rfl ?_
    refine zr_get C f_B_72 d_B_fateOfField_10 (n := 13) rfl hB rfl ?_
    refine zr_callV3 C k_B_61 d_B_fateOfField_13 (nx := 16) rfl ho rfl ⟨by decide, by decide⟩ (Nat.le_of_ble_eq_true rfl) ⟨by decide, by decide⟩ (sp_O_findField l hO hw ht hnm ?_)
    refine zr_toe (y := -1) e ?_
    refine zr_istore_n C d_B_fateOfField_16 (n := 17) rfl (by decide) rfl ?_
    refine zr_iload_n C d_B_fateOfField_17 (n := 18) rfl rfl ?_
    refine zr_iconst C d_B_fateOfField_18 (n := 19) rfl (v := -1) (by decide) ?_
    refine zr_icmp_ne C d_B_fateOfField_19 (n := 22) rfl (t := 25) (by decide) (fun c1 => ?_) (fun c1 => ?_)
    · exact absurd rfl c1
    · refine zr_bipush C d_B_fateOfField_22 (n := 24) rfl (v := -7) (by decide) ?_
      exact zr_iret C d_B_fateOfField_24 (by simp [zb_ff, e, zb_pl_n, c1]) hK (Nat.zero_le _) (Nat.zero_le _)
  · refine zr_aload_n C d_B_fateOfField_0 (n := 1) rfl rfl ?_
    refine zr_aload_n C d_B_fateOfField_1 (n := 2) rfl rfl ?_
    refine zr_getN C f_B_15 d_B_fateOfField_2 (n := 5) rfl hU rfl ?_
    refine zr_aload_n C d_B_fateOfField_5 (n := 6) rfl rfl ?_
    refine zr_getN C f_B_58 d_B_fateOfField_6 (n := 9) rfl hU rfl ?_
    refine zr_aload_n C d_B_fateOfField_9 (n := 10) rfl rfl ?_
    refine zr_get C f_B_72 d_B_fateOfField_10 (n := 13) rfl hB rfl ?_
    refine zr_callV3 C k_B_61 d_B_fateOfField_13 (nx := 16) rfl ho rfl ⟨by decide, by decide⟩ (Nat.le_of_ble_eq_true rfl) ⟨by decide, by decide⟩ (sp_O_findField l hO hw ht hnm ?_)
    refine zr_toe (y := nI j) e ?_
    refine zr_istore_n C d_B_fateOfField_16 (n := 17) rfl (by decide) rfl ?_
    refine zr_iload_n C d_B_fateOfField_17 (n := 18) rfl rfl ?_
    refine zr_iconst C d_B_fateOfField_18 (n := 19) rfl (v := -1) (by decide) ?_
    refine zr_icmp_ne C d_B_fateOfField_19 (n := 22) rfl (t := 25) (by decide) (fun c1 => ?_) (fun c1 => ?_)
    · refine zr_aload_n C d_B_fateOfField_25 (n := 26) rfl rfl ?_
      refine zr_getN C f_B_65 d_B_fateOfField_26 (n := 29) rfl ho rfl ?_
      refine zr_iload_n C d_B_fateOfField_29 (n := 30) rfl rfl ?_
      refine zr_ialdN C d_B_fateOfField_30 (n := 31) rfl a3 rfl (by omega) (by decide) ?_
      refine zr_istore C d_B_fateOfField_31 (n := 33) rfl (by decide) rfl ?_
      refine zr_iload C d_B_fateOfField_33 (n := 35) rfl rfl ?_
      refine zr_bipush C d_B_fateOfField_35 (n := 37) rfl (v := nI 8) (by decide) ?_
      refine zr_iand C d_B_fateOfField_37 (n := 38) rfl ?_
      refine zr_if_ne C d_B_fateOfField_38 (n := 41) rfl (t := 56) (by decide) (fun c2 => ?_) (fun c2 => ?_)
      · replace c2 := zb_nzt c2
        refine zr_bipush C d_B_fateOfField_56 (n := 58) rfl (v := -8) (by decide) ?_
        exact zr_iret C d_B_fateOfField_58 (by rw [e, zb_pl_s (show j < 2147483648 by omega)]; unfold zb_ff; dsimp only; rw [if_pos (by simp [c2])]) hK (Nat.zero_le _) (Nat.zero_le _)
      · replace c2 := zb_nzf c2
        refine zr_aload_n C d_B_fateOfField_41 (n := 42) rfl rfl ?_
        refine zr_getN C f_B_39 d_B_fateOfField_42 (n := 45) rfl hU rfl ?_
        refine zr_iconst C d_B_fateOfField_45 (n := 46) rfl (v := nI 1) (by decide) ?_
        refine zr_icmp_ne C d_B_fateOfField_46 (n := 49) rfl (t := 59) (by decide) (fun c3 => ?_) (fun c3 => ?_)
        · replace c3 := zk_ne (by omega) (by omega) c3
          refine zr_iload C d_B_fateOfField_59 (n := 61) rfl rfl ?_
          refine zr_iconst C d_B_fateOfField_61 (n := 62) rfl (v := nI 1) (by decide) ?_
          refine zr_iand C d_B_fateOfField_62 (n := 63) rfl ?_
          refine zr_if_eq C d_B_fateOfField_63 (n := 66) rfl (t := 70) (by decide) (fun c4 => ?_) (fun c4 => ?_)
          · replace c4 := zb_nzf c4
            refine zr_iconst C d_B_fateOfField_70 (n := 71) rfl (v := nI 0) (by decide) ?_
            refine zr_toe (y := zk_b (zb_nz (O 3 j) (nI 1))) (by rw [c4]; rfl) ?_
            refine zr_aload_n C d_B_fateOfField_71 (n := 72) rfl rfl ?_
            refine zr_get C f_B_80 d_B_fateOfField_72 (n := 75) rfl hB rfl ?_
            refine zr_icmp_ne C d_B_fateOfField_75 (n := 78) rfl (t := 82) (by decide) (fun c5 => ?_) (fun c5 => ?_)
            · refine zr_bipush C d_B_fateOfField_82 (n := 84) rfl (v := -9) (by decide) ?_
              exact zr_iret C d_B_fateOfField_84 (by rw [e, zb_pl_s (show j < 2147483648 by omega)]; unfold zb_ff; dsimp only; rw [if_neg (by simp [c2, c3]), if_neg c5]) hK (Nat.zero_le _) (Nat.zero_le _)
            · refine zr_iconst C d_B_fateOfField_78 (n := 79) rfl (v := nI 0) (by decide) ?_
              refine zr_goto C d_B_fateOfField_79 (t := 84) (by decide) ?_
              exact zr_iret C d_B_fateOfField_84 (by rw [e, zb_pl_s (show j < 2147483648 by omega)]; unfold zb_ff; dsimp only; rw [if_neg (by simp [c2, c3]), if_pos c5]) hK (Nat.zero_le _) (Nat.zero_le _)
          · replace c4 := zb_nzt c4
            refine zr_iconst C d_B_fateOfField_66 (n := 67) rfl (v := nI 1) (by decide) ?_
            refine zr_goto C d_B_fateOfField_67 (t := 71) (by decide) ?_
            refine zr_toe (y := zk_b (zb_nz (O 3 j) (nI 1))) (by rw [c4]; rfl) ?_
            refine zr_aload_n C d_B_fateOfField_71 (n := 72) rfl rfl ?_
            refine zr_get C f_B_80 d_B_fateOfField_72 (n := 75) rfl hB rfl ?_
            refine zr_icmp_ne C d_B_fateOfField_75 (n := 78) rfl (t := 82) (by decide) (fun c6 => ?_) (fun c6 => ?_)
            · refine zr_bipush C d_B_fateOfField_82 (n := 84) rfl (v := -9) (by decide) ?_
              exact zr_iret C d_B_fateOfField_84 (by rw [e, zb_pl_s (show j < 2147483648 by omega)]; unfold zb_ff; dsimp only; rw [if_neg (by simp [c2, c3]), if_neg c6]) hK (Nat.zero_le _) (Nat.zero_le _)
            · refine zr_iconst C d_B_fateOfField_78 (n := 79) rfl (v := nI 0) (by decide) ?_
              refine zr_goto C d_B_fateOfField_79 (t := 84) (by decide) ?_
              exact zr_iret C d_B_fateOfField_84 (by rw [e, zb_pl_s (show j < 2147483648 by omega)]; unfold zb_ff; dsimp only; rw [if_neg (by simp [c2, c3]), if_pos c6]) hK (Nat.zero_le _) (Nat.zero_le _)
        · replace c3 := zk_eq (by omega) (by omega) c3
          refine zr_iload C d_B_fateOfField_49 (n := 51) rfl rfl ?_
          refine zr_iconst C d_B_fateOfField_51 (n := 52) rfl (v := nI 4) (by decide) ?_
          refine zr_iand C d_B_fateOfField_52 (n := 53) rfl ?_
          refine zr_if_eq C d_B_fateOfField_53 (n := 56) rfl (t := 59) (by decide) (fun c7 => ?_) (fun c7 => ?_)
          · replace c7 := zb_nzf c7
            refine zr_iload C d_B_fateOfField_59 (n := 61) rfl rfl ?_
            refine zr_iconst C d_B_fateOfField_61 (n := 62) rfl (v := nI 1) (by decide) ?_
            refine zr_iand C d_B_fateOfField_62 (n := 63) rfl ?_
            refine zr_if_eq C d_B_fateOfField_63 (n := 66) rfl (t := 70) (by decide) (fun c8 => ?_) (fun c8 => ?_)
            · replace c8 := zb_nzf c8
              refine zr_iconst C d_B_fateOfField_70 (n := 71) rfl (v := nI 0) (by decide) ?_
              refine zr_toe (y := zk_b (zb_nz (O 3 j) (nI 1))) (by rw [c8]; rfl) ?_
              refine zr_aload_n C d_B_fateOfField_71 (n := 72) rfl rfl ?_
              refine zr_get C f_B_80 d_B_fateOfField_72 (n := 75) rfl hB rfl ?_
              refine zr_icmp_ne C d_B_fateOfField_75 (n := 78) rfl (t := 82) (by decide) (fun c9 => ?_) (fun c9 => ?_)
              · refine zr_bipush C d_B_fateOfField_82 (n := 84) rfl (v := -9) (by decide) ?_
                exact zr_iret C d_B_fateOfField_84 (by rw [e, zb_pl_s (show j < 2147483648 by omega)]; unfold zb_ff; dsimp only; rw [if_neg (by simp [c2, c3, c7]), if_neg c9]) hK (Nat.zero_le _) (Nat.zero_le _)
              · refine zr_iconst C d_B_fateOfField_78 (n := 79) rfl (v := nI 0) (by decide) ?_
                refine zr_goto C d_B_fateOfField_79 (t := 84) (by decide) ?_
                exact zr_iret C d_B_fateOfField_84 (by rw [e, zb_pl_s (show j < 2147483648 by omega)]; unfold zb_ff; dsimp only; rw [if_neg (by simp [c2, c3, c7]), if_pos c9]) hK (Nat.zero_le _) (Nat.zero_le _)
            · replace c8 := zb_nzt c8
              refine zr_iconst C d_B_fateOfField_66 (n := 67) rfl (v := nI 1) (by decide) ?_
              refine zr_goto C d_B_fateOfField_67 (t := 71) (by decide) ?_
              refine zr_toe (y := zk_b (zb_nz (O 3 j) (nI 1))) (by rw [c8]; rfl) ?_
              refine zr_aload_n C d_B_fateOfField_71 (n := 72) rfl rfl ?_
              refine zr_get C f_B_80 d_B_fateOfField_72 (n := 75) rfl hB rfl ?_
              refine zr_icmp_ne C d_B_fateOfField_75 (n := 78) rfl (t := 82) (by decide) (fun c10 => ?_) (fun c10 => ?_)
              · refine zr_bipush C d_B_fateOfField_82 (n := 84) rfl (v := -9) (by decide) ?_
                exact zr_iret C d_B_fateOfField_84 (by rw [e, zb_pl_s (show j < 2147483648 by omega)]; unfold zb_ff; dsimp only; rw [if_neg (by simp [c2, c3, c7]), if_neg c10]) hK (Nat.zero_le _) (Nat.zero_le _)
              · refine zr_iconst C d_B_fateOfField_78 (n := 79) rfl (v := nI 0) (by decide) ?_
                refine zr_goto C d_B_fateOfField_79 (t := 84) (by decide) ?_
                exact zr_iret C d_B_fateOfField_84 (by rw [e, zb_pl_s (show j < 2147483648 by omega)]; unfold zb_ff; dsimp only; rw [if_neg (by simp [c2, c3, c7]), if_pos c10]) hK (Nat.zero_le _) (Nat.zero_le _)
          · replace c7 := zb_nzt c7
            refine zr_bipush C d_B_fateOfField_56 (n := 58) rfl (v := -8) (by decide) ?_
            exact zr_iret C d_B_fateOfField_58 (by rw [e, zb_pl_s (show j < 2147483648 by omega)]; unfold zb_ff; dsimp only; rw [if_pos (by simp [c2, c3, c7])]) hK (Nat.zero_le _) (Nat.zero_le _)
    · exact absurd c1 (zk_nm1 (by omega))
abbrev rm_B_fateOfCall : Room := { frames := 3, cells := 0, slots := 0, locals := 72 }
set_option maxHeartbeats 4000000 in
set_option maxRecDepth 100000 in
/-- fateOfCall -/
theorem sp_B_fateOfCall (l : Launch) {h : zk_H} {i u o : Nat} {B : Nat → Int32} {k t nm : Nat} {a : Int32} {O : zo_O} (hB : h[i]? = some (zb_c B)) (hU : h[u]? = some (zu_c k t nm a)) (hO : zo_at h o O) (hw : zo_wf O) (ht : t < 6) (hnm : nm < 3) {pa : Nat} (hpa : pa < 4) (hp : B 6 = nI pa) {K : Option Value → zk_H → Prop} (hK : K (some (.int (zb_fc O t B (zb_pl (zo_fm O t nm pa (B 7)))))) h) : zk_S l y_B_fateOfCall b_B_fateOfCall 5 (some .int) rm_B_fateOfCall [.ref (i + 1), .ref (u + 1), .ref (o + 1)] h K := by
  obtain ⟨ho, a0, a1, a2, a3, a4, a5, a6, a7⟩ := id hO
  refine zk_S_of R_B "fateOfCall" (by decide) rfl rfl [some (.ref (i + 1)), some (.ref (u + 1)), some (.ref (o + 1)), none, none] 2 rfl (Nat.le_of_ble_eq_true rfl) (fun p e s m ar below meth c D dA b base C => ?_)
  rcases zo_fm_pl hw ht hnm hpa (an := B 7) with e | ⟨j, hj, e, hjp⟩
  · refine zr_aload_n C d_B_fateOfCall_0 (n := 1) rfl rfl ?_
    refine zr_aload_n C d_B_fateOfCall_1 (n := 2) rfl rfl ?_
    refine zr_getN C f_B_15 d_B_fateOfCall_2 (n := 5) rfl hU rfl ?_
    refine zr_callV1 C k_B_21 d_B_fateOfCall_5 (nx := 8) rfl ho rfl ⟨by decide, by decide⟩ (Nat.le_of_ble_eq_true rfl) ⟨by decide, by decide⟩ (sp_O_isInterface l hO ht ?_)
    refine zr_aload_n C d_B_fateOfCall_8 (n := 9) rfl rfl ?_
    refine zr_get C f_B_27 d_B_fateOfCall_9 (n := 12) rfl hB rfl ?_
    refine zr_icmp_eq C d_B_fateOfCall_12 (n := 15) rfl (t := 18) (by decide) (fun c1 => ?_) (fun c1 => ?_)
    · refine zr_aload_n C d_B_fateOfCall_18 (n := 19) rfl rfl ?_
      refine zr_aload_n C d_B_fateOfCall_19 (n := 20) rfl rfl ?_
      refine zr_getN C f_B_15 d_B_fateOfCall_20 (n := 23) rfl hU rfl ?_
      refine zr_aload_n C d_B_fateOfCall_23 (n := 24) rfl rfl ?_
      refine zr_getN C f_B_58 d_B_fateOfCall_24 (n := 27) rfl hU rfl ?_
      refine zr_aload_n C d_B_fateOfCall_27 (n := 28) rfl rfl ?_
      refine zr_get C f_B_97 d_B_fateOfCall_28 (n := 31) rfl hB rfl ?_
      refine zr_toe (y := nI pa) hp ?_
      refine zr_aload_n C d_B_fateOfCall_31 (n := 32) rfl rfl ?_
      refine zr_get C f_B_103 d_B_fateOfCall_32 (n := 35) rfl hB rfl ?_
      refine zr_callV4 C k_B_86 d_B_fateOfCall_35 (nx := 38) rfl ho rfl ⟨by decide, by decide⟩ (Nat.le_of_ble_eq_true rfl) ⟨by decide, by decide⟩ (sp_O_findMethod l hO hw ht hnm hpa ?_)
      refine zr_toe (y := -1) e ?_
      refine zr_istore_n C d_B_fateOfCall_38 (n := 39) rfl (by decide) rfl ?_
      refine zr_iload_n C d_B_fateOfCall_39 (n := 40) rfl rfl ?_
      refine zr_iconst C d_B_fateOfCall_40 (n := 41) rfl (v := -1) (by decide) ?_
      refine zr_icmp_ne C d_B_fateOfCall_41 (n := 44) rfl (t := 47) (by decide) (fun c2 => ?_) (fun c2 => ?_)
      · exact absurd rfl c2
      · refine zr_bipush C d_B_fateOfCall_44 (n := 46) rfl (v := -7) (by decide) ?_
        exact zr_iret C d_B_fateOfCall_46 (by simp [zb_fc, e, zb_pl_n, c1, c2]) hK (Nat.zero_le _) (Nat.zero_le _)
    · refine zr_bipush C d_B_fateOfCall_15 (n := 17) rfl (v := -9) (by decide) ?_
      exact zr_iret C d_B_fateOfCall_17 (by simp [zb_fc, e, zb_pl_n, c1]) hK (Nat.zero_le _) (Nat.zero_le _)
  · refine zr_aload_n C d_B_fateOfCall_0 (n := 1) rfl rfl ?_
    refine zr_aload_n C d_B_fateOfCall_1 (n := 2) rfl rfl ?_
    refine zr_getN C f_B_15 d_B_fateOfCall_2 (n := 5) rfl hU rfl ?_
    refine zr_callV1 C k_B_21 d_B_fateOfCall_5 (nx := 8) rfl ho rfl ⟨by decide, by decide⟩ (Nat.le_of_ble_eq_true rfl) ⟨by decide, by decide⟩ (sp_O_isInterface l hO ht ?_)
    refine zr_aload_n C d_B_fateOfCall_8 (n := 9) rfl rfl ?_
    refine zr_get C f_B_27 d_B_fateOfCall_9 (n := 12) rfl hB rfl ?_
    refine zr_icmp_eq C d_B_fateOfCall_12 (n := 15) rfl (t := 18) (by decide) (fun c1 => ?_) (fun c1 => ?_)
    · refine zr_aload_n C d_B_fateOfCall_18 (n := 19) rfl rfl ?_
      refine zr_aload_n C d_B_fateOfCall_19 (n := 20) rfl rfl ?_
      refine zr_getN C f_B_15 d_B_fateOfCall_20 (n := 23) rfl hU rfl ?_
      refine zr_aload_n C d_B_fateOfCall_23 (n := 24) rfl rfl ?_
      refine zr_getN C f_B_58 d_B_fateOfCall_24 (n := 27) rfl hU rfl ?_
      refine zr_aload_n C d_B_fateOfCall_27 (n := 28) rfl rfl ?_
      refine zr_get C f_B_97 d_B_fateOfCall_28 (n := 31) rfl hB rfl ?_
      refine zr_toe (y := nI pa) hp ?_
      refine zr_aload_n C d_B_fateOfCall_31 (n := 32) rfl rfl ?_
      refine zr_get C f_B_103 d_B_fateOfCall_32 (n := 35) rfl hB rfl ?_
      refine zr_callV4 C k_B_86 d_B_fateOfCall_35 (nx := 38) rfl ho rfl ⟨by decide, by decide⟩ (Nat.le_of_ble_eq_true rfl) ⟨by decide, by decide⟩ (sp_O_findMethod l hO hw ht hnm hpa ?_)
      refine zr_toe (y := nI j) e ?_
      refine zr_istore_n C d_B_fateOfCall_38 (n := 39) rfl (by decide) rfl ?_
      refine zr_iload_n C d_B_fateOfCall_39 (n := 40) rfl rfl ?_
      refine zr_iconst C d_B_fateOfCall_40 (n := 41) rfl (v := -1) (by decide) ?_
      refine zr_icmp_ne C d_B_fateOfCall_41 (n := 44) rfl (t := 47) (by decide) (fun c2 => ?_) (fun c2 => ?_)
      · refine zr_aload_n C d_B_fateOfCall_47 (n := 48) rfl rfl ?_
        refine zr_getN C f_B_90 d_B_fateOfCall_48 (n := 51) rfl ho rfl ?_
        refine zr_iload_n C d_B_fateOfCall_51 (n := 52) rfl rfl ?_
        refine zr_ialdN C d_B_fateOfCall_52 (n := 53) rfl a6 rfl (by omega) (by decide) ?_
        refine zr_istore C d_B_fateOfCall_53 (n := 55) rfl (by decide) rfl ?_
        refine zr_iload C d_B_fateOfCall_55 (n := 57) rfl rfl ?_
        refine zr_bipush C d_B_fateOfCall_57 (n := 59) rfl (v := nI 8) (by decide) ?_
        refine zr_iand C d_B_fateOfCall_59 (n := 60) rfl ?_
        refine zr_if_eq C d_B_fateOfCall_60 (n := 63) rfl (t := 66) (by decide) (fun c3 => ?_) (fun c3 => ?_)
        · replace c3 := zb_nzf c3
          refine zr_iload C d_B_fateOfCall_66 (n := 68) rfl rfl ?_
          refine zr_iconst C d_B_fateOfCall_68 (n := 69) rfl (v := nI 1) (by decide) ?_
          refine zr_iand C d_B_fateOfCall_69 (n := 70) rfl ?_
          refine zr_if_eq C d_B_fateOfCall_70 (n := 73) rfl (t := 77) (by decide) (fun c4 => ?_) (fun c4 => ?_)
          · replace c4 := zb_nzf c4
            refine zr_iconst C d_B_fateOfCall_77 (n := 78) rfl (v := nI 0) (by decide) ?_
            refine zr_toe (y := zk_b (zb_nz (O 6 j) (nI 1))) (by rw [c4]; rfl) ?_
            refine zr_aload_n C d_B_fateOfCall_78 (n := 79) rfl rfl ?_
            refine zr_get C f_B_80 d_B_fateOfCall_79 (n := 82) rfl hB rfl ?_
            refine zr_icmp_eq C d_B_fateOfCall_82 (n := 85) rfl (t := 88) (by decide) (fun c5 => ?_) (fun c5 => ?_)
            · refine zr_iload_n C d_B_fateOfCall_88 (n := 89) rfl rfl ?_
              refine zr_bipush C d_B_fateOfCall_89 (n := 91) rfl (v := nI 12) (by decide) ?_
              refine zr_idiv C d_B_fateOfCall_91 (n := 92) rfl (by decide) ?_
              refine zr_toe (y := nI (j / 12)) (pk_div (by omega) (by decide) (by decide)) ?_
              refine zr_aload_n C d_B_fateOfCall_92 (n := 93) rfl rfl ?_
              refine zr_get C f_B_106 d_B_fateOfCall_93 (n := 96) rfl hB rfl ?_
              refine zr_icmp_ne C d_B_fateOfCall_96 (n := 99) rfl (t := 103) (by decide) (fun c6 => ?_) (fun c6 => ?_)
              · refine zr_iconst C d_B_fateOfCall_103 (n := 104) rfl (v := nI 1) (by decide) ?_
                exact zr_iret C d_B_fateOfCall_104 (by unfold zb_fc; rw [e, zb_pl_s (show j < 2147483648 by omega)]; rw [if_pos c1]; dsimp only; rw [if_neg (by rw [c3]; decide)]; rw [if_pos c5, if_neg c6]) hK (Nat.zero_le _) (Nat.zero_le _)
              · refine zr_iconst C d_B_fateOfCall_99 (n := 100) rfl (v := nI 0) (by decide) ?_
                refine zr_goto C d_B_fateOfCall_100 (t := 104) (by decide) ?_
                exact zr_iret C d_B_fateOfCall_104 (by unfold zb_fc; rw [e, zb_pl_s (show j < 2147483648 by omega)]; rw [if_pos c1]; dsimp only; rw [if_neg (by rw [c3]; decide)]; rw [if_pos c5, if_pos c6]) hK (Nat.zero_le _) (Nat.zero_le _)
            · refine zr_bipush C d_B_fateOfCall_85 (n := 87) rfl (v := -9) (by decide) ?_
              exact zr_iret C d_B_fateOfCall_87 (by unfold zb_fc; rw [e, zb_pl_s (show j < 2147483648 by omega)]; rw [if_pos c1]; dsimp only; rw [if_neg (by rw [c3]; decide)]; rw [if_neg c5]) hK (Nat.zero_le _) (Nat.zero_le _)
          · replace c4 := zb_nzt c4
            refine zr_iconst C d_B_fateOfCall_73 (n := 74) rfl (v := nI 1) (by decide) ?_
            refine zr_goto C d_B_fateOfCall_74 (t := 78) (by decide) ?_
            refine zr_toe (y := zk_b (zb_nz (O 6 j) (nI 1))) (by rw [c4]; rfl) ?_
            refine zr_aload_n C d_B_fateOfCall_78 (n := 79) rfl rfl ?_
            refine zr_get C f_B_80 d_B_fateOfCall_79 (n := 82) rfl hB rfl ?_
            refine zr_icmp_eq C d_B_fateOfCall_82 (n := 85) rfl (t := 88) (by decide) (fun c7 => ?_) (fun c7 => ?_)
            · refine zr_iload_n C d_B_fateOfCall_88 (n := 89) rfl rfl ?_
              refine zr_bipush C d_B_fateOfCall_89 (n := 91) rfl (v := nI 12) (by decide) ?_
              refine zr_idiv C d_B_fateOfCall_91 (n := 92) rfl (by decide) ?_
              refine zr_toe (y := nI (j / 12)) (pk_div (by omega) (by decide) (by decide)) ?_
              refine zr_aload_n C d_B_fateOfCall_92 (n := 93) rfl rfl ?_
              refine zr_get C f_B_106 d_B_fateOfCall_93 (n := 96) rfl hB rfl ?_
              refine zr_icmp_ne C d_B_fateOfCall_96 (n := 99) rfl (t := 103) (by decide) (fun c8 => ?_) (fun c8 => ?_)
              · refine zr_iconst C d_B_fateOfCall_103 (n := 104) rfl (v := nI 1) (by decide) ?_
                exact zr_iret C d_B_fateOfCall_104 (by unfold zb_fc; rw [e, zb_pl_s (show j < 2147483648 by omega)]; rw [if_pos c1]; dsimp only; rw [if_neg (by rw [c3]; decide)]; rw [if_pos c7, if_neg c8]) hK (Nat.zero_le _) (Nat.zero_le _)
              · refine zr_iconst C d_B_fateOfCall_99 (n := 100) rfl (v := nI 0) (by decide) ?_
                refine zr_goto C d_B_fateOfCall_100 (t := 104) (by decide) ?_
                exact zr_iret C d_B_fateOfCall_104 (by unfold zb_fc; rw [e, zb_pl_s (show j < 2147483648 by omega)]; rw [if_pos c1]; dsimp only; rw [if_neg (by rw [c3]; decide)]; rw [if_pos c7, if_pos c8]) hK (Nat.zero_le _) (Nat.zero_le _)
            · refine zr_bipush C d_B_fateOfCall_85 (n := 87) rfl (v := -9) (by decide) ?_
              exact zr_iret C d_B_fateOfCall_87 (by unfold zb_fc; rw [e, zb_pl_s (show j < 2147483648 by omega)]; rw [if_pos c1]; dsimp only; rw [if_neg (by rw [c3]; decide)]; rw [if_neg c7]) hK (Nat.zero_le _) (Nat.zero_le _)
        · replace c3 := zb_nzt c3
          refine zr_bipush C d_B_fateOfCall_63 (n := 65) rfl (v := -8) (by decide) ?_
          exact zr_iret C d_B_fateOfCall_65 (by unfold zb_fc; rw [e, zb_pl_s (show j < 2147483648 by omega)]; rw [if_pos c1]; dsimp only; rw [if_pos c3]) hK (Nat.zero_le _) (Nat.zero_le _)
      · exact absurd c2 (zk_nm1 (by omega))
    · refine zr_bipush C d_B_fateOfCall_15 (n := 17) rfl (v := -9) (by decide) ?_
      exact zr_iret C d_B_fateOfCall_17 (by unfold zb_fc; rw [e, zb_pl_s (show j < 2147483648 by omega)]; rw [if_neg c1]) hK (Nat.zero_le _) (Nat.zero_le _)
abbrev rm_B_isSubtypeBarred : Room := { frames := 2, cells := 0, slots := 0, locals := 43 }
set_option maxHeartbeats 4000000 in
set_option maxRecDepth 100000 in
/-- isSubtypeBarred -/
theorem sp_B_isSubtypeBarred (l : Launch) {h : zk_H} {i u o : Nat} {B : Nat → Int32} {k t nm : Nat} {a : Int32} {O : zo_O} (hB : h[i]? = some (zb_c B)) (hU : h[u]? = some (zu_c k t nm a)) (hO : zo_at h o O) (ht : t < 6) {K : Option Value → zk_H → Prop} (hK : K (some (.int (zk_b (zb_sb O t B)))) h) : zk_S l y_B_isSubtypeBarred b_B_isSubtypeBarred 3 (some .boolean) rm_B_isSubtypeBarred [.ref (i + 1), .ref (u + 1), .ref (o + 1)] h K := by
  obtain ⟨ho, a0, a1, a2, a3, a4, a5, a6, a7⟩ := id hO
  refine zk_S_of R_B "isSubtypeBarred" (by decide) rfl rfl [some (.ref (i + 1)), some (.ref (u + 1)), some (.ref (o + 1))] 0 rfl (Nat.le_of_ble_eq_true rfl) (fun p e s m ar below meth c D dA b base C => ?_)
  refine zr_aload_n C d_B_isSubtypeBarred_0 (n := 1) rfl rfl ?_
  refine zr_aload_n C d_B_isSubtypeBarred_1 (n := 2) rfl rfl ?_
  refine zr_getN C f_B_15 d_B_isSubtypeBarred_2 (n := 5) rfl hU rfl ?_
  refine zr_callV1 C k_B_52 d_B_isSubtypeBarred_5 (nx := 8) rfl ho rfl ⟨by decide, by decide⟩ (Nat.le_of_ble_eq_true rfl) ⟨by decide, by decide⟩ (sp_O_isFinal l hO ht ?_)
  refine zr_if_ne C d_B_isSubtypeBarred_8 (n := 11) rfl (t := 26) (by decide) (fun c1 => ?_) (fun c1 => ?_)
  · replace c1 := zk_bn c1
    refine zr_iconst C d_B_isSubtypeBarred_26 (n := 27) rfl (v := nI 1) (by decide) ?_
    refine zr_goto C d_B_isSubtypeBarred_27 (t := 31) (by decide) ?_
    exact zr_zret C d_B_isSubtypeBarred_31 (by rw [zb_sb]; simp [c1]; try rfl) (by decide) hK (Nat.zero_le _) (Nat.zero_le _)
  · replace c1 := zk_bz c1
    refine zr_aload_n C d_B_isSubtypeBarred_11 (n := 12) rfl rfl ?_
    refine zr_aload_n C d_B_isSubtypeBarred_12 (n := 13) rfl rfl ?_
    refine zr_getN C f_B_15 d_B_isSubtypeBarred_13 (n := 16) rfl hU rfl ?_
    refine zr_callV1 C k_B_21 d_B_isSubtypeBarred_16 (nx := 19) rfl ho rfl ⟨by decide, by decide⟩ (Nat.le_of_ble_eq_true rfl) ⟨by decide, by decide⟩ (sp_O_isInterface l hO ht ?_)
    refine zr_aload_n C d_B_isSubtypeBarred_19 (n := 20) rfl rfl ?_
    refine zr_get C f_B_27 d_B_isSubtypeBarred_20 (n := 23) rfl hB rfl ?_
    refine zr_icmp_eq C d_B_isSubtypeBarred_23 (n := 26) rfl (t := 30) (by decide) (fun c2 => ?_) (fun c2 => ?_)
    · refine zr_iconst C d_B_isSubtypeBarred_30 (n := 31) rfl (v := nI 0) (by decide) ?_
      exact zr_zret C d_B_isSubtypeBarred_31 (by rw [zb_sb]; simp [c1, c2]; try rfl) (by decide) hK (Nat.zero_le _) (Nat.zero_le _)
    · refine zr_iconst C d_B_isSubtypeBarred_26 (n := 27) rfl (v := nI 1) (by decide) ?_
      refine zr_goto C d_B_isSubtypeBarred_27 (t := 31) (by decide) ?_
      exact zr_zret C d_B_isSubtypeBarred_31 (by rw [zb_sb]; simp [c1, c2]; try rfl) (by decide) hK (Nat.zero_le _) (Nat.zero_le _)
abbrev rm_B_fateOfOverride : Room := { frames := 3, cells := 0, slots := 0, locals := 72 }
set_option maxHeartbeats 4000000 in
set_option maxRecDepth 100000 in
/-- fateOfOverride -/
theorem sp_B_fateOfOverride (l : Launch) {h : zk_H} {i u o : Nat} {B : Nat → Int32} {k t nm : Nat} {ag : Nat} {O : zo_O} (hB : h[i]? = some (zb_c B)) (hU : h[u]? = some (zu_c k t nm (nI ag))) (hO : zo_at h o O) (hw : zo_wf O) (ht : t < 6) (hnm : nm < 3) (hag : ag < 4) {K : Option Value → zk_H → Prop} (hK : K (some (.int (zb_fo O t B (zb_pl (zo_fm O t nm ag (-1)))))) h) : zk_S l y_B_fateOfOverride b_B_fateOfOverride 4 (some .int) rm_B_fateOfOverride [.ref (i + 1), .ref (u + 1), .ref (o + 1)] h K := by
  obtain ⟨ho, a0, a1, a2, a3, a4, a5, a6, a7⟩ := id hO
  refine zk_S_of R_B "fateOfOverride" (by decide) rfl rfl [some (.ref (i + 1)), some (.ref (u + 1)), some (.ref (o + 1)), none] 1 rfl (Nat.le_of_ble_eq_true rfl) (fun p e s m ar below meth c D dA b base C => ?_)
  rcases zo_fm_pl hw ht hnm hag (an := -1) with e | ⟨j, hj, e, hjp⟩
  · refine zr_aload_n C d_B_fateOfOverride_0 (n := 1) rfl rfl ?_
    refine zr_aload_n C d_B_fateOfOverride_1 (n := 2) rfl rfl ?_
    refine zr_aload_n C d_B_fateOfOverride_2 (n := 3) rfl rfl ?_
    refine zr_callV2 C k_B_123 d_B_fateOfOverride_3 (nx := 6) rfl hB rfl ⟨by decide, by decide⟩ (Nat.le_of_ble_eq_true rfl) ⟨by decide, by decide⟩ (sp_B_isSubtypeBarred l hB hU hO ht ?_)
    refine zr_if_eq C d_B_fateOfOverride_6 (n := 9) rfl (t := 12) (by decide) (fun c1 => ?_) (fun c1 => ?_)
    · replace c1 := zk_bz c1
      refine zr_aload_n C d_B_fateOfOverride_12 (n := 13) rfl rfl ?_
      refine zr_aload_n C d_B_fateOfOverride_13 (n := 14) rfl rfl ?_
      refine zr_getN C f_B_15 d_B_fateOfOverride_14 (n := 17) rfl hU rfl ?_
      refine zr_aload_n C d_B_fateOfOverride_17 (n := 18) rfl rfl ?_
      refine zr_getN C f_B_58 d_B_fateOfOverride_18 (n := 21) rfl hU rfl ?_
      refine zr_aload_n C d_B_fateOfOverride_21 (n := 22) rfl rfl ?_
      refine zr_getN C f_B_83 d_B_fateOfOverride_22 (n := 25) rfl hU rfl ?_
      refine zr_iconst C d_B_fateOfOverride_25 (n := 26) rfl (v := -1) (by decide) ?_
      refine zr_callV4 C k_B_86 d_B_fateOfOverride_26 (nx := 29) rfl ho rfl ⟨by decide, by decide⟩ (Nat.le_of_ble_eq_true rfl) ⟨by decide, by decide⟩ (sp_O_findMethod l hO hw ht hnm hag ?_)
      refine zr_toe (y := -1) e ?_
      refine zr_istore_n C d_B_fateOfOverride_29 (n := 30) rfl (by decide) rfl ?_
      refine zr_iload_n C d_B_fateOfOverride_30 (n := 31) rfl rfl ?_
      refine zr_iconst C d_B_fateOfOverride_31 (n := 32) rfl (v := -1) (by decide) ?_
      refine zr_icmp_eq C d_B_fateOfOverride_32 (n := 35) rfl (t := 47) (by decide) (fun c2 => ?_) (fun c2 => ?_)
      · refine zr_iconst C d_B_fateOfOverride_47 (n := 48) rfl (v := nI 3) (by decide) ?_
        exact zr_iret C d_B_fateOfOverride_48 (by simp [zb_fo, e, zb_pl_n, c1, c2]) hK (Nat.zero_le _) (Nat.zero_le _)
      · exact absurd rfl c2
    · replace c1 := zk_bn c1
      refine zr_bipush C d_B_fateOfOverride_9 (n := 11) rfl (v := -9) (by decide) ?_
      exact zr_iret C d_B_fateOfOverride_11 (by simp [zb_fo, e, zb_pl_n, c1]) hK (Nat.zero_le _) (Nat.zero_le _)
  · refine zr_aload_n C d_B_fateOfOverride_0 (n := 1) rfl rfl ?_
    refine zr_aload_n C d_B_fateOfOverride_1 (n := 2) rfl rfl ?_
    refine zr_aload_n C d_B_fateOfOverride_2 (n := 3) rfl rfl ?_
    refine zr_callV2 C k_B_123 d_B_fateOfOverride_3 (nx := 6) rfl hB rfl ⟨by decide, by decide⟩ (Nat.le_of_ble_eq_true rfl) ⟨by decide, by decide⟩ (sp_B_isSubtypeBarred l hB hU hO ht ?_)
    refine zr_if_eq C d_B_fateOfOverride_6 (n := 9) rfl (t := 12) (by decide) (fun c1 => ?_) (fun c1 => ?_)
    · replace c1 := zk_bz c1
      refine zr_aload_n C d_B_fateOfOverride_12 (n := 13) rfl rfl ?_
      refine zr_aload_n C d_B_fateOfOverride_13 (n := 14) rfl rfl ?_
      refine zr_getN C f_B_15 d_B_fateOfOverride_14 (n := 17) rfl hU rfl ?_
      refine zr_aload_n C d_B_fateOfOverride_17 (n := 18) rfl rfl ?_
      refine zr_getN C f_B_58 d_B_fateOfOverride_18 (n := 21) rfl hU rfl ?_
      refine zr_aload_n C d_B_fateOfOverride_21 (n := 22) rfl rfl ?_
      refine zr_getN C f_B_83 d_B_fateOfOverride_22 (n := 25) rfl hU rfl ?_
      refine zr_iconst C d_B_fateOfOverride_25 (n := 26) rfl (v := -1) (by decide) ?_
      refine zr_callV4 C k_B_86 d_B_fateOfOverride_26 (nx := 29) rfl ho rfl ⟨by decide, by decide⟩ (Nat.le_of_ble_eq_true rfl) ⟨by decide, by decide⟩ (sp_O_findMethod l hO hw ht hnm hag ?_)
      refine zr_toe (y := nI j) e ?_
      refine zr_istore_n C d_B_fateOfOverride_29 (n := 30) rfl (by decide) rfl ?_
      refine zr_iload_n C d_B_fateOfOverride_30 (n := 31) rfl rfl ?_
      refine zr_iconst C d_B_fateOfOverride_31 (n := 32) rfl (v := -1) (by decide) ?_
      refine zr_icmp_eq C d_B_fateOfOverride_32 (n := 35) rfl (t := 47) (by decide) (fun c2 => ?_) (fun c2 => ?_)
      · exact absurd c2 (zk_nm1 (by omega))
      · refine zr_aload_n C d_B_fateOfOverride_35 (n := 36) rfl rfl ?_
        refine zr_getN C f_B_90 d_B_fateOfOverride_36 (n := 39) rfl ho rfl ?_
        refine zr_iload_n C d_B_fateOfOverride_39 (n := 40) rfl rfl ?_
        refine zr_ialdN C d_B_fateOfOverride_40 (n := 41) rfl a6 rfl (by omega) (by decide) ?_
        refine zr_bipush C d_B_fateOfOverride_41 (n := 43) rfl (v := nI 8) (by decide) ?_
        refine zr_iand C d_B_fateOfOverride_43 (n := 44) rfl ?_
        refine zr_if_eq C d_B_fateOfOverride_44 (n := 47) rfl (t := 49) (by decide) (fun c3 => ?_) (fun c3 => ?_)
        · replace c3 := zb_nzf c3
          refine zr_aload_n C d_B_fateOfOverride_49 (n := 50) rfl rfl ?_
          refine zr_getN C f_B_90 d_B_fateOfOverride_50 (n := 53) rfl ho rfl ?_
          refine zr_iload_n C d_B_fateOfOverride_53 (n := 54) rfl rfl ?_
          refine zr_ialdN C d_B_fateOfOverride_54 (n := 55) rfl a6 rfl (by omega) (by decide) ?_
          refine zr_iconst C d_B_fateOfOverride_55 (n := 56) rfl (v := nI 5) (by decide) ?_
          refine zr_iand C d_B_fateOfOverride_56 (n := 57) rfl ?_
          refine zr_if_eq C d_B_fateOfOverride_57 (n := 60) rfl (t := 63) (by decide) (fun c4 => ?_) (fun c4 => ?_)
          · replace c4 := zb_nzf c4
            refine zr_aload_n C d_B_fateOfOverride_63 (n := 64) rfl rfl ?_
            refine zr_getN C f_B_100 d_B_fateOfOverride_64 (n := 67) rfl ho rfl ?_
            refine zr_iload_n C d_B_fateOfOverride_67 (n := 68) rfl rfl ?_
            refine zr_ialdN C d_B_fateOfOverride_68 (n := 69) rfl a7 rfl (by omega) (by decide) ?_
            refine zr_aload_n C d_B_fateOfOverride_69 (n := 70) rfl rfl ?_
            refine zr_get C f_B_103 d_B_fateOfOverride_70 (n := 73) rfl hB rfl ?_
            refine zr_icmp_ne C d_B_fateOfOverride_73 (n := 76) rfl (t := 80) (by decide) (fun c5 => ?_) (fun c5 => ?_)
            · refine zr_iconst C d_B_fateOfOverride_80 (n := 81) rfl (v := nI 3) (by decide) ?_
              exact zr_iret C d_B_fateOfOverride_81 (by simp [zb_fo, e, zb_pl_s (show j < 2147483648 by omega), c1, c2, c3, c4, c5]) hK (Nat.zero_le _) (Nat.zero_le _)
            · refine zr_iconst C d_B_fateOfOverride_76 (n := 77) rfl (v := nI 0) (by decide) ?_
              refine zr_goto C d_B_fateOfOverride_77 (t := 81) (by decide) ?_
              exact zr_iret C d_B_fateOfOverride_81 (by simp [zb_fo, e, zb_pl_s (show j < 2147483648 by omega), c1, c2, c3, c4, c5]) hK (Nat.zero_le _) (Nat.zero_le _)
          · replace c4 := zb_nzt c4
            refine zr_bipush C d_B_fateOfOverride_60 (n := 62) rfl (v := -9) (by decide) ?_
            exact zr_iret C d_B_fateOfOverride_62 (by simp [zb_fo, e, zb_pl_s (show j < 2147483648 by omega), c1, c2, c3, c4]) hK (Nat.zero_le _) (Nat.zero_le _)
        · replace c3 := zb_nzt c3
          refine zr_iconst C d_B_fateOfOverride_47 (n := 48) rfl (v := nI 3) (by decide) ?_
          exact zr_iret C d_B_fateOfOverride_48 (by simp [zb_fo, e, zb_pl_s (show j < 2147483648 by omega), c1, c2, c3]) hK (Nat.zero_le _) (Nat.zero_le _)
    · replace c1 := zk_bn c1
      refine zr_bipush C d_B_fateOfOverride_9 (n := 11) rfl (v := -9) (by decide) ?_
      exact zr_iret C d_B_fateOfOverride_11 (by simp [zb_fo, e, zb_pl_s (show j < 2147483648 by omega), c1]) hK (Nat.zero_le _) (Nat.zero_le _)
abbrev rm_B_fateWith : Room := { frames := 10, cells := 0, slots := 0, locals := 266 }
set_option maxHeartbeats 4000000 in
set_option maxRecDepth 100000 in
/-- fateWith -/
theorem sp_B_fateWith (l : Launch) {h : zk_H} {i u o : Nat} {B : Nat → Int32} {k t nm : Nat} {ag : Nat} {a : Int32} {O : zo_O} (hB : h[i]? = some (zb_c B)) (hU : h[u]? = some (zu_c k t nm a)) (hO : zo_at h o O) (hw : zo_wf O) (ht : t < 6) (hk : k < 7) (hnm : nm < 4) (hm : k = 2 ∨ k = 3 ∨ k = 6 → nm < 3 ∧ a = nI ag ∧ ag < 4) {pa : Nat} (hpa : k = 2 ∨ k = 3 → pa < 4 ∧ B 6 = nI pa) {K : Option Value → zk_H → Prop} (hK : K (some (.int (zb_fw O k t nm ag pa B))) h) : zk_S l y_B_fateWith b_B_fateWith 3 (some .int) rm_B_fateWith [.ref (i + 1), .ref (u + 1), .ref (o + 1)] h K := by
  obtain ⟨ho, a0, a1, a2, a3, a4, a5, a6, a7⟩ := id hO
  refine zk_S_of R_B "fateWith" (by decide) rfl rfl [some (.ref (i + 1)), some (.ref (u + 1)), some (.ref (o + 1))] 0 rfl (Nat.le_of_ble_eq_true rfl) (fun p e s m ar below meth c D dA b base C => ?_)
  refine zr_aload_n C d_B_fateWith_0 (n := 1) rfl rfl ?_
  refine zr_get C f_B_9 d_B_fateWith_1 (n := 4) rfl hB rfl ?_
  refine zr_if_eq C d_B_fateWith_4 (n := 7) rfl (t := 22) (by decide) (fun c1 => ?_) (fun c1 => ?_)
  · refine zr_aload_n C d_B_fateWith_22 (n := 23) rfl rfl ?_
    refine zr_aload_n C d_B_fateWith_23 (n := 24) rfl rfl ?_
    refine zr_getN C f_B_15 d_B_fateWith_24 (n := 27) rfl hU rfl ?_
    refine zr_callV1 C k_B_30 d_B_fateWith_27 (nx := 30) rfl ho rfl ⟨by decide, by decide⟩ (Nat.le_of_ble_eq_true rfl) ⟨by decide, by decide⟩ (sp_O_isThere l hO ht ?_)
    refine zr_if_ne C d_B_fateWith_30 (n := 33) rfl (t := 36) (by decide) (fun c2 => ?_) (fun c2 => ?_)
    · replace c2 := zk_bn c2
      refine zr_aload_n C d_B_fateWith_36 (n := 37) rfl rfl ?_
      refine zr_aload_n C d_B_fateWith_37 (n := 38) rfl rfl ?_
      refine zr_getN C f_B_15 d_B_fateWith_38 (n := 41) rfl hU rfl ?_
      refine zr_callV1 C k_B_33 d_B_fateWith_41 (nx := 44) rfl ho rfl ⟨by decide, by decide⟩ (Nat.le_of_ble_eq_true rfl) ⟨by decide, by decide⟩ (sp_O_isHidden l hO ht ?_)
      refine zr_if_eq C d_B_fateWith_44 (n := 47) rfl (t := 50) (by decide) (fun c3 => ?_) (fun c3 => ?_)
      · replace c3 := zk_bz c3
        refine zr_aload_n C d_B_fateWith_50 (n := 51) rfl rfl ?_
        refine zr_getN C f_B_39 d_B_fateWith_51 (n := 54) rfl hU rfl ?_
        have hsw : k = 0 ∨ k = 1 ∨ k = 2 ∨ k = 3 ∨ k = 4 ∨ k = 5 ∨ k = 6 := by omega
        rcases hsw with rfl | rfl | rfl | rfl | rfl | rfl | rfl
        · refine zr_tableIn C d_B_fateWith_54 (by decide) (by decide) (off := 38) (by decide) (t := 92) (by decide) ?_
          refine zr_aload_n C d_B_fateWith_92 (n := 93) rfl rfl ?_
          refine zr_aload_n C d_B_fateWith_93 (n := 94) rfl rfl ?_
          refine zr_aload_n C d_B_fateWith_94 (n := 95) rfl rfl ?_
          refine zr_callV2 C k_B_117 d_B_fateWith_95 (nx := 98) rfl hB rfl ⟨by decide, by decide⟩ (Nat.le_of_ble_eq_true rfl) ⟨by decide, by decide⟩ (sp_B_fateOfField l hB hU hO hw ht (by decide) hnm ?_)
          exact zr_iret C d_B_fateWith_98 (by simp [zb_fw, c1, c2, c3]) hK (Nat.zero_le _) (Nat.zero_le _)
        · refine zr_tableIn C d_B_fateWith_54 (by decide) (by decide) (off := 38) (by decide) (t := 92) (by decide) ?_
          refine zr_aload_n C d_B_fateWith_92 (n := 93) rfl rfl ?_
          refine zr_aload_n C d_B_fateWith_93 (n := 94) rfl rfl ?_
          refine zr_aload_n C d_B_fateWith_94 (n := 95) rfl rfl ?_
          refine zr_callV2 C k_B_117 d_B_fateWith_95 (nx := 98) rfl hB rfl ⟨by decide, by decide⟩ (Nat.le_of_ble_eq_true rfl) ⟨by decide, by decide⟩ (sp_B_fateOfField l hB hU hO hw ht (by decide) hnm ?_)
          exact zr_iret C d_B_fateWith_98 (by simp [zb_fw, c1, c2, c3]) hK (Nat.zero_le _) (Nat.zero_le _)
        · refine zr_tableIn C d_B_fateWith_54 (by decide) (by decide) (off := 45) (by decide) (t := 99) (by decide) ?_
          have hm := hm (by decide)
          rw [hm.2.1] at hU
          have hpa := hpa (by decide)
          refine zr_aload_n C d_B_fateWith_99 (n := 100) rfl rfl ?_
          refine zr_aload_n C d_B_fateWith_100 (n := 101) rfl rfl ?_
          refine zr_aload_n C d_B_fateWith_101 (n := 102) rfl rfl ?_
          refine zr_callV2 C k_B_120 d_B_fateWith_102 (nx := 105) rfl hB rfl ⟨by decide, by decide⟩ (Nat.le_of_ble_eq_true rfl) ⟨by decide, by decide⟩ (sp_B_fateOfCall l hB hU hO hw ht hm.1 hpa.1 hpa.2 ?_)
          exact zr_iret C d_B_fateWith_105 (by simp [zb_fw, c1, c2, c3]) hK (Nat.zero_le _) (Nat.zero_le _)
        · refine zr_tableIn C d_B_fateWith_54 (by decide) (by decide) (off := 45) (by decide) (t := 99) (by decide) ?_
          have hm := hm (by decide)
          rw [hm.2.1] at hU
          have hpa := hpa (by decide)
          refine zr_aload_n C d_B_fateWith_99 (n := 100) rfl rfl ?_
          refine zr_aload_n C d_B_fateWith_100 (n := 101) rfl rfl ?_
          refine zr_aload_n C d_B_fateWith_101 (n := 102) rfl rfl ?_
          refine zr_callV2 C k_B_120 d_B_fateWith_102 (nx := 105) rfl hB rfl ⟨by decide, by decide⟩ (Nat.le_of_ble_eq_true rfl) ⟨by decide, by decide⟩ (sp_B_fateOfCall l hB hU hO hw ht hm.1 hpa.1 hpa.2 ?_)
          exact zr_iret C d_B_fateWith_105 (by simp [zb_fw, c1, c2, c3]) hK (Nat.zero_le _) (Nat.zero_le _)
        · refine zr_tableIn C d_B_fateWith_54 (by decide) (by decide) (off := 52) (by decide) (t := 106) (by decide) ?_
          refine zr_aload_n C d_B_fateWith_106 (n := 107) rfl rfl ?_
          refine zr_aload_n C d_B_fateWith_107 (n := 108) rfl rfl ?_
          refine zr_getN C f_B_15 d_B_fateWith_108 (n := 111) rfl hU rfl ?_
          refine zr_callV1 C k_B_49 d_B_fateWith_111 (nx := 114) rfl ho rfl ⟨by decide, by decide⟩ (Nat.le_of_ble_eq_true rfl) ⟨by decide, by decide⟩ (sp_O_isAbstract l hO ht ?_)
          refine zr_if_eq C d_B_fateWith_114 (n := 117) rfl (t := 122) (by decide) (fun c4 => ?_) (fun c4 => ?_)
          · replace c4 := zk_bz c4
            refine zr_iconst C d_B_fateWith_122 (n := 123) rfl (v := nI 0) (by decide) ?_
            exact zr_iret C d_B_fateWith_123 (by simp [zb_fw, c1, c2, c3, c4]) hK (Nat.zero_le _) (Nat.zero_le _)
          · replace c4 := zk_bn c4
            refine zr_bipush C d_B_fateWith_117 (n := 119) rfl (v := -9) (by decide) ?_
            refine zr_goto C d_B_fateWith_119 (t := 123) (by decide) ?_
            exact zr_iret C d_B_fateWith_123 (by simp [zb_fw, c1, c2, c3, c4]) hK (Nat.zero_le _) (Nat.zero_le _)
        · refine zr_tableIn C d_B_fateWith_54 (by decide) (by decide) (off := 70) (by decide) (t := 124) (by decide) ?_
          refine zr_aload_n C d_B_fateWith_124 (n := 125) rfl rfl ?_
          refine zr_aload_n C d_B_fateWith_125 (n := 126) rfl rfl ?_
          refine zr_aload_n C d_B_fateWith_126 (n := 127) rfl rfl ?_
          refine zr_callV2 C k_B_123 d_B_fateWith_127 (nx := 130) rfl hB rfl ⟨by decide, by decide⟩ (Nat.le_of_ble_eq_true rfl) ⟨by decide, by decide⟩ (sp_B_isSubtypeBarred l hB hU hO ht ?_)
          refine zr_if_eq C d_B_fateWith_130 (n := 133) rfl (t := 138) (by decide) (fun c5 => ?_) (fun c5 => ?_)
          · replace c5 := zk_bz c5
            refine zr_iconst C d_B_fateWith_138 (n := 139) rfl (v := nI 0) (by decide) ?_
            exact zr_iret C d_B_fateWith_139 (by simp [zb_fw, c1, c2, c3, c5]) hK (Nat.zero_le _) (Nat.zero_le _)
          · replace c5 := zk_bn c5
            refine zr_bipush C d_B_fateWith_133 (n := 135) rfl (v := -9) (by decide) ?_
            refine zr_goto C d_B_fateWith_135 (t := 139) (by decide) ?_
            exact zr_iret C d_B_fateWith_139 (by simp [zb_fw, c1, c2, c3, c5]) hK (Nat.zero_le _) (Nat.zero_le _)
        · refine zr_tableOut C d_B_fateWith_54 (by decide) (t := 140) (by decide) ?_
          have hm := hm (by decide)
          rw [hm.2.1] at hU
          refine zr_aload_n C d_B_fateWith_140 (n := 141) rfl rfl ?_
          refine zr_aload_n C d_B_fateWith_141 (n := 142) rfl rfl ?_
          refine zr_aload_n C d_B_fateWith_142 (n := 143) rfl rfl ?_
          refine zr_callV2 C k_B_126 d_B_fateWith_143 (nx := 146) rfl hB rfl ⟨by decide, by decide⟩ (Nat.le_of_ble_eq_true rfl) ⟨by decide, by decide⟩ (sp_B_fateOfOverride l hB hU hO hw ht hm.1 hm.2.2 ?_)
          exact zr_iret C d_B_fateWith_146 (by simp [zb_fw, c1, c2, c3]) hK (Nat.zero_le _) (Nat.zero_le _)
      · replace c3 := zk_bn c3
        refine zr_bipush C d_B_fateWith_47 (n := 49) rfl (v := -8) (by decide) ?_
        exact zr_iret C d_B_fateWith_49 (by simp [zb_fw, c1, c2, c3]) hK (Nat.zero_le _) (Nat.zero_le _)
    · replace c2 := zk_bz c2
      refine zr_bipush C d_B_fateWith_33 (n := 35) rfl (v := -6) (by decide) ?_
      exact zr_iret C d_B_fateWith_35 (by simp [zb_fw, c1, c2]) hK (Nat.zero_le _) (Nat.zero_le _)
  · refine zr_aload_n C d_B_fateWith_7 (n := 8) rfl rfl ?_
    refine zr_aload_n C d_B_fateWith_8 (n := 9) rfl rfl ?_
    refine zr_aload_n C d_B_fateWith_9 (n := 10) rfl rfl ?_
    refine zr_callV2 C k_B_113 d_B_fateWith_10 (nx := 13) rfl hB rfl ⟨by decide, by decide⟩ (Nat.le_of_ble_eq_true rfl) ⟨by decide, by decide⟩ (sp_B_isStillValue l hB hU hO hw ht hnm ?_)
    refine zr_if_eq C d_B_fateWith_13 (n := 16) rfl (t := 20) (by decide) (fun c6 => ?_) (fun c6 => ?_)
    · replace c6 := zk_bz c6
      refine zr_iconst C d_B_fateWith_20 (n := 21) rfl (v := nI 2) (by decide) ?_
      exact zr_iret C d_B_fateWith_21 (by simp [zb_fw, c1, c6]) hK (Nat.zero_le _) (Nat.zero_le _)
    · replace c6 := zk_bn c6
      refine zr_iconst C d_B_fateWith_16 (n := 17) rfl (v := nI 0) (by decide) ?_
      refine zr_goto C d_B_fateWith_17 (t := 21) (by decide) ?_
      exact zr_iret C d_B_fateWith_21 (by simp [zb_fw, c1, c6]) hK (Nat.zero_le _) (Nat.zero_le _)
abbrev rm_U_tell : Room := { frames := 0, cells := 0, slots := 0, locals := 0 }
set_option maxHeartbeats 4000000 in
set_option maxRecDepth 100000 in
/-- tell -/
theorem sp_U_tell (l : Launch) {h : zk_H} {u : Nat} {v0 v1 v2 v3 x0 x1 x2 x3 : Int32} (hU : h[u]? = some (.inr (2, [.int v0, .int v1, .int v2, .int v3]))) {K : Option Value → zk_H → Prop} (hK : K none (h.set u (.inr (2, [.int x0, .int x1, .int x2, .int x3])))) : zk_S l y_U_tell b_U_tell 5 none rm_U_tell [.ref (u + 1), .int x0, .int x1, .int x2, .int x3] h K := by
  refine zk_S_of R_U "tell" (by decide) rfl rfl [some (.ref (u + 1)), some (.int x0), some (.int x1), some (.int x2), some (.int x3)] 0 rfl (Nat.le_of_ble_eq_true rfl) (fun p e s m ar below meth c D dA b base C => ?_)
  refine zr_aload_n C d_U_tell_0 (n := 1) rfl rfl ?_
  refine zr_iload_n C d_U_tell_1 (n := 2) rfl rfl ?_
  refine zr_put C f_U_7 Y_U rfl rfl d_U_tell_2 (n := 5) rfl hU (Nat.le_of_ble_eq_true rfl) (fun _ _ => rfl) (fun _ _ => rfl) ?_
  refine zr_aload_n C d_U_tell_5 (n := 6) rfl rfl ?_
  refine zr_iload_n C d_U_tell_6 (n := 7) rfl rfl ?_
  refine zr_put C f_U_13 Y_U rfl rfl d_U_tell_7 (n := 10) rfl (zk_g0 hU) (Nat.le_of_ble_eq_true rfl) (fun _ _ => rfl) (fun _ _ => rfl) ?_
  rw [zk_sset]
  refine zr_aload_n C d_U_tell_10 (n := 11) rfl rfl ?_
  refine zr_iload_n C d_U_tell_11 (n := 12) rfl rfl ?_
  refine zr_put C f_U_16 Y_U rfl rfl d_U_tell_12 (n := 15) rfl (zk_g0 hU) (Nat.le_of_ble_eq_true rfl) (fun _ _ => rfl) (fun _ _ => rfl) ?_
  rw [zk_sset]
  refine zr_aload_n C d_U_tell_15 (n := 16) rfl rfl ?_
  refine zr_iload C d_U_tell_16 (n := 18) rfl rfl ?_
  refine zr_put C f_U_19 Y_U rfl rfl d_U_tell_18 (n := 21) rfl (zk_g0 hU) (Nat.le_of_ble_eq_true rfl) (fun _ _ => rfl) (fun _ _ => rfl) ?_
  rw [zk_sset]
  exact zr_vret C d_U_tell_21 hK (Nat.zero_le _) (Nat.zero_le _)
abbrev rm_U_init : Room := { frames := 1, cells := 0, slots := 0, locals := 20 }
set_option maxHeartbeats 4000000 in
set_option maxRecDepth 100000 in
/-- ApiCompare$Use() -/
theorem sp_U_init (l : Launch) {h : zk_H} {u : Nat} {K : Option Value → zk_H → Prop} (hK : K none h) : zk_S l y_U_init b_U_init 1 none rm_U_init [.ref (u + 1)] h K := by
  refine zk_S_of R_U "<init>" (by decide) rfl rfl [some (.ref (u + 1))] 0 rfl (Nat.le_of_ble_eq_true rfl) (fun p e s m ar below meth c D dA b base C => ?_)
  refine zr_aload_n C d_U_init_0 (n := 1) rfl rfl ?_
  refine zr_objInit C o_U_1 d_U_init_1 (n := 4) rfl (by decide) (by decide) ?_
  exact zr_vret C d_U_init_4 hK (Nat.zero_le _) (Nat.zero_le _)
abbrev rm_B_init : Room := { frames := 1, cells := 0, slots := 0, locals := 20 }
set_option maxHeartbeats 4000000 in
set_option maxRecDepth 100000 in
/-- ApiCompare$Binding() -/
theorem sp_B_init (l : Launch) {h : zk_H} {u : Nat} {K : Option Value → zk_H → Prop} (hK : K none h) : zk_S l y_B_init b_B_init 1 none rm_B_init [.ref (u + 1)] h K := by
  refine zk_S_of R_B "<init>" (by decide) rfl rfl [some (.ref (u + 1))] 0 rfl (Nat.le_of_ble_eq_true rfl) (fun p e s m ar below meth c D dA b base C => ?_)
  refine zr_aload_n C d_B_init_0 (n := 1) rfl rfl ?_
  refine zr_objInit C o_B_3 d_B_init_1 (n := 4) rfl (by decide) (by decide) ?_
  exact zr_vret C d_B_init_4 hK (Nat.zero_le _) (Nat.zero_le _)
end
section
def zc_bl (x y : Int32) : Bool := decide (¬ x < 0 ∧ ¬ y ≤ x)
theorem zc_bl_n {x : Int32} {n : Nat} (h : zc_bl x (nI n) = true) (hn : n < 2147483648) : ∃ j, j < n ∧ x = nI j ∧ (nI j).toNatClampNeg = j := by
  have h2 := of_decide_eq_true h
  rcases pk_ix x hn with q | q | ⟨j, hj, e⟩
  · exact absurd q h2.1
  · exact absurd q h2.2
  · exact ⟨j, hj, e, nI_clamp (by omega)⟩
def zc_ff (x : Int32) : Bool := zc_bl x (nI 32) && (!zb_nz x (nI 2)) && (!zb_nz x (nI 16) || decide (x &&& nI 5 = nI 5))
def zc_mf (x : Int32) : Bool := zc_bl x (nI 16) && (!zb_nz x (nI 2) || decide (x = nI 2))
/-- the class's cells: one object, two offers, 16 uses, two bindings -/
def zc_at (h : zk_H) (V : Nat → zo_O) (uk ut un : Nat → Nat) (ua : Nat → Int32) (uc : Nat) (B E : Nat → Int32) : Prop :=
  h[0]? = some (.inr (3, [.ref 2, .ref 11, .ref 20, .int (nI uc), .ref 37, .ref 38])) ∧ zo_at h 1 (V 0) ∧ zo_at h 10 (V 1) ∧ (∃ f : Nat → Option Nat, h[19]? = some (.inl (1, 16, .inr (.inr (.inr (.inr f))))) ∧ ∀ j, j < 16 → f j = some (j + 20 + 1)) ∧ (∀ j, j < 16 → h[j + 20]? = some (zu_c (uk j) (ut j) (un j) (ua j))) ∧ h[36]? = some (zb_c B) ∧ h[37]? = some (zb_c E)
def zc_fr (h h' : zk_H) : Prop := h'.length = h.length ∧ ∀ j, 38 ≤ j → h'[j]? = h[j]?
theorem zc_fr_r {h : zk_H} : zc_fr h h := ⟨rfl, fun _ _ => rfl⟩
theorem zc_fr_t {h h1 h2 : zk_H} (a : zc_fr h h1) (b : zc_fr h1 h2) : zc_fr h h2 := ⟨b.1.trans a.1, fun j hj => (b.2 j hj).trans (a.2 j hj)⟩
def zc_up (V : Nat → zo_O) (v : Nat) (O : zo_O) : Nat → zo_O := fun w => if w = v then O else V w
theorem zc_o {h : zk_H} {V : Nat → zo_O} {uk ut un : Nat → Nat} {ua : Nat → Int32} {uc : Nat} {B E : Nat → Int32} (hS : zc_at h V uk ut un ua uc B E) {v : Nat} (hv : v < 2) : zo_at h (9 * v + 1) (V v) := by
  rcases (show v = 0 ∨ v = 1 by omega) with rfl | rfl
  · exact hS.2.1
  · exact hS.2.2.1
theorem zo_at_kept {h h' : zk_H} {o : Nat} {O : zo_O} (hO : zo_at h o O) (hk : ∀ j, o ≤ j → j ≤ o + 8 → h'[j]? = h[j]?) : zo_at h' o O := by
  obtain ⟨ho, a0, a1, a2, a3, a4, a5, a6, a7⟩ := hO
  exact ⟨(hk _ (by omega) (by omega)).trans ho, (hk _ (by omega) (by omega)).trans a0, (hk _ (by omega) (by omega)).trans a1, (hk _ (by omega) (by omega)).trans a2, (hk _ (by omega) (by omega)).trans a3, (hk _ (by omega) (by omega)).trans a4, (hk _ (by omega) (by omega)).trans a5, (hk _ (by omega) (by omega)).trans a6, (hk _ (by omega) (by omega)).trans a7⟩
theorem zc_off {h h' : zk_H} {V : Nat → zo_O} {uk ut un : Nat → Nat} {ua : Nat → Int32} {uc : Nat} {B E : Nat → Int32} {v : Nat} {O : zo_O} (hS : zc_at h V uk ut un ua uc B E) (hv : v < 2) (h1 : zo_at h' (9 * v + 1) O) (h2 : ∀ j, j < 9 * v + 1 ∨ 9 * v + 9 < j → h'[j]? = h[j]?) (h3 : h'.length = h.length) : zc_at h' (zc_up V v O) uk ut un ua uc B E ∧ zc_fr h h' := by
  obtain ⟨s0, s1, s2, ⟨f, s3, s4⟩, s5, s6, s7⟩ := hS
  refine ⟨⟨(h2 _ (by omega)).trans s0, ?_, ?_, ⟨f, (h2 _ (by omega)).trans s3, s4⟩, fun j hj => (h2 _ (by omega)).trans (s5 j hj), (h2 _ (by omega)).trans s6, (h2 _ (by omega)).trans s7⟩, h3, fun j hj => h2 j (by omega)⟩
  · rcases (show v = 0 ∨ v = 1 by omega) with rfl | rfl
    · exact h1
    · exact zo_at_kept s1 (fun j q1 q2 => h2 j (by omega))
  · rcases (show v = 0 ∨ v = 1 by omega) with rfl | rfl
    · exact zo_at_kept s2 (fun j q1 q2 => h2 j (by omega))
    · exact h1
theorem zk_gs {h : zk_H} {i j : Nat} {x : zk_E} (hne : i ≠ j) : (h.set i x)[j]? = h[j]? := List.getElem?_set_ne hne
def zc_pt (O : zo_O) (t : Nat) (x1 x2 x3 : Int32) : zo_O := fun a => if a = 0 then upd (O 0) t x1 else if a = 1 then upd (O 1) t x2 else if a = 2 then upd (O 2) t x3 else O a
def zc_pf (O : zo_O) (j : Nat) (x1 x2 x3 : Int32) : zo_O := fun a => if a = 3 then upd (O 3) j x2 else if a = 4 then upd (O 4) j x1 else if a = 5 then upd (O 5) j (zo_fnum x2 x3) else O a
def zc_pm (O : zo_O) (j : Nat) (x1 x2 : Int32) : zo_O := fun a => if a = 6 then upd (O 6) j x2 else if a = 7 then upd (O 7) j x1 else O a
def zc_rf (O : zo_O) (j : Nat) : zo_O := fun a => if a = 3 then upd (O 3) j (-1) else O a
def zc_rm (O : zo_O) (j : Nat) : zo_O := fun a => if a = 6 then upd (O 6) j (-1) else O a
def zc_rt (O : zo_O) (t : Nat) : zo_O := fun a => if a = 3 then zo_cl (t * 4) 4 0 (O 3) else if a = 6 then zo_cl (t * 12) 12 0 (O 6) else zc_pt O t (-1) (nI 6) (nI 0) a
def zc_cp (O P : zo_O) : zo_O := fun a => va_cpy (P a) (O a) 0 0 (if a < 3 then 6 else if a < 6 then 24 else 72)
theorem zc_hpt {h : zk_H} {V : Nat → zo_O} {uk ut un : Nat → Nat} {ua : Nat → Int32} {uc : Nat} {B E : Nat → Int32} {v o : Nat} {t : Nat} {x1 x2 x3 : Int32} (hS : zc_at h V uk ut un ua uc B E) (hv : v < 2) (e : 9 * v + 1 = o) : zc_at (((h.set (o + 1) (.inl (0, 6, .inl (upd (V v 0) t x1)))).set (o + 2) (.inl (0, 6, .inl (upd (V v 1) t x2)))).set (o + 3) (.inl (0, 6, .inl (upd (V v 2) t x3)))) (zc_up V v (zc_pt (V v) t x1 x2 x3)) uk ut un ua uc B E ∧ zc_fr h (((h.set (o + 1) (.inl (0, 6, .inl (upd (V v 0) t x1)))).set (o + 2) (.inl (0, 6, .inl (upd (V v 1) t x2)))).set (o + 3) (.inl (0, 6, .inl (upd (V v 2) t x3)))) := by
  have hO := zc_o hS hv
  subst e
  obtain ⟨ho, a0, a1, a2, a3, a4, a5, a6, a7⟩ := hO
  refine zc_off hS hv ⟨(zk_g1 (by omega) (zk_g1 (by omega) (zk_g1 (by omega) ho))), (zk_g1 (by omega) (zk_g1 (by omega) (zk_g0 a0))), (zk_g1 (by omega) (zk_g0 (zk_g1 (by omega) a1))), (zk_g0 (zk_g1 (by omega) (zk_g1 (by omega) a2))), (zk_g1 (by omega) (zk_g1 (by omega) (zk_g1 (by omega) a3))), (zk_g1 (by omega) (zk_g1 (by omega) (zk_g1 (by omega) a4))), (zk_g1 (by omega) (zk_g1 (by omega) (zk_g1 (by omega) a5))), (zk_g1 (by omega) (zk_g1 (by omega) (zk_g1 (by omega) a6))), (zk_g1 (by omega) (zk_g1 (by omega) (zk_g1 (by omega) a7)))⟩ (fun j hj => ?_) (by simp only [List.length_set])
  rw [zk_gs (by omega)]; rw [zk_gs (by omega)]; rw [zk_gs (by omega)]
theorem zc_hpf {h : zk_H} {V : Nat → zo_O} {uk ut un : Nat → Nat} {ua : Nat → Int32} {uc : Nat} {B E : Nat → Int32} {v o : Nat} {j : Nat} {x1 x2 x3 : Int32} (hS : zc_at h V uk ut un ua uc B E) (hv : v < 2) (e : 9 * v + 1 = o) : zc_at (((h.set (o + 4) (.inl (0, 24, .inl (upd (V v 3) j x2)))).set (o + 5) (.inl (0, 24, .inl (upd (V v 4) j x1)))).set (o + 6) (.inl (0, 24, .inl (upd (V v 5) j (zo_fnum x2 x3))))) (zc_up V v (zc_pf (V v) j x1 x2 x3)) uk ut un ua uc B E ∧ zc_fr h (((h.set (o + 4) (.inl (0, 24, .inl (upd (V v 3) j x2)))).set (o + 5) (.inl (0, 24, .inl (upd (V v 4) j x1)))).set (o + 6) (.inl (0, 24, .inl (upd (V v 5) j (zo_fnum x2 x3))))) := by
  have hO := zc_o hS hv
  subst e
  obtain ⟨ho, a0, a1, a2, a3, a4, a5, a6, a7⟩ := hO
  refine zc_off hS hv ⟨(zk_g1 (by omega) (zk_g1 (by omega) (zk_g1 (by omega) ho))), (zk_g1 (by omega) (zk_g1 (by omega) (zk_g1 (by omega) a0))), (zk_g1 (by omega) (zk_g1 (by omega) (zk_g1 (by omega) a1))), (zk_g1 (by omega) (zk_g1 (by omega) (zk_g1 (by omega) a2))), (zk_g1 (by omega) (zk_g1 (by omega) (zk_g0 a3))), (zk_g1 (by omega) (zk_g0 (zk_g1 (by omega) a4))), (zk_g0 (zk_g1 (by omega) (zk_g1 (by omega) a5))), (zk_g1 (by omega) (zk_g1 (by omega) (zk_g1 (by omega) a6))), (zk_g1 (by omega) (zk_g1 (by omega) (zk_g1 (by omega) a7)))⟩ (fun j hj => ?_) (by simp only [List.length_set])
  rw [zk_gs (by omega)]; rw [zk_gs (by omega)]; rw [zk_gs (by omega)]
theorem zc_hpm {h : zk_H} {V : Nat → zo_O} {uk ut un : Nat → Nat} {ua : Nat → Int32} {uc : Nat} {B E : Nat → Int32} {v o : Nat} {j : Nat} {x1 x2 : Int32} (hS : zc_at h V uk ut un ua uc B E) (hv : v < 2) (e : 9 * v + 1 = o) : zc_at ((h.set (o + 7) (.inl (0, 72, .inl (upd (V v 6) j x2)))).set (o + 8) (.inl (0, 72, .inl (upd (V v 7) j x1)))) (zc_up V v (zc_pm (V v) j x1 x2)) uk ut un ua uc B E ∧ zc_fr h ((h.set (o + 7) (.inl (0, 72, .inl (upd (V v 6) j x2)))).set (o + 8) (.inl (0, 72, .inl (upd (V v 7) j x1)))) := by
  have hO := zc_o hS hv
  subst e
  obtain ⟨ho, a0, a1, a2, a3, a4, a5, a6, a7⟩ := hO
  refine zc_off hS hv ⟨(zk_g1 (by omega) (zk_g1 (by omega) ho)), (zk_g1 (by omega) (zk_g1 (by omega) a0)), (zk_g1 (by omega) (zk_g1 (by omega) a1)), (zk_g1 (by omega) (zk_g1 (by omega) a2)), (zk_g1 (by omega) (zk_g1 (by omega) a3)), (zk_g1 (by omega) (zk_g1 (by omega) a4)), (zk_g1 (by omega) (zk_g1 (by omega) a5)), (zk_g1 (by omega) (zk_g0 a6)), (zk_g0 (zk_g1 (by omega) a7))⟩ (fun j hj => ?_) (by simp only [List.length_set])
  rw [zk_gs (by omega)]; rw [zk_gs (by omega)]
theorem zc_hrf {h : zk_H} {V : Nat → zo_O} {uk ut un : Nat → Nat} {ua : Nat → Int32} {uc : Nat} {B E : Nat → Int32} {v o : Nat} {j : Nat} (hS : zc_at h V uk ut un ua uc B E) (hv : v < 2) (e : 9 * v + 1 = o) : zc_at (h.set (o + 4) (.inl (0, 24, .inl (upd (V v 3) j (-1))))) (zc_up V v (zc_rf (V v) j)) uk ut un ua uc B E ∧ zc_fr h (h.set (o + 4) (.inl (0, 24, .inl (upd (V v 3) j (-1))))) := by
  have hO := zc_o hS hv
  subst e
  obtain ⟨ho, a0, a1, a2, a3, a4, a5, a6, a7⟩ := hO
  refine zc_off hS hv ⟨(zk_g1 (by omega) ho), (zk_g1 (by omega) a0), (zk_g1 (by omega) a1), (zk_g1 (by omega) a2), (zk_g0 a3), (zk_g1 (by omega) a4), (zk_g1 (by omega) a5), (zk_g1 (by omega) a6), (zk_g1 (by omega) a7)⟩ (fun j hj => ?_) (by simp only [List.length_set])
  rw [zk_gs (by omega)]
theorem zc_hrm {h : zk_H} {V : Nat → zo_O} {uk ut un : Nat → Nat} {ua : Nat → Int32} {uc : Nat} {B E : Nat → Int32} {v o : Nat} {j : Nat} (hS : zc_at h V uk ut un ua uc B E) (hv : v < 2) (e : 9 * v + 1 = o) : zc_at (h.set (o + 7) (.inl (0, 72, .inl (upd (V v 6) j (-1))))) (zc_up V v (zc_rm (V v) j)) uk ut un ua uc B E ∧ zc_fr h (h.set (o + 7) (.inl (0, 72, .inl (upd (V v 6) j (-1))))) := by
  have hO := zc_o hS hv
  subst e
  obtain ⟨ho, a0, a1, a2, a3, a4, a5, a6, a7⟩ := hO
  refine zc_off hS hv ⟨(zk_g1 (by omega) ho), (zk_g1 (by omega) a0), (zk_g1 (by omega) a1), (zk_g1 (by omega) a2), (zk_g1 (by omega) a3), (zk_g1 (by omega) a4), (zk_g1 (by omega) a5), (zk_g0 a6), (zk_g1 (by omega) a7)⟩ (fun j hj => ?_) (by simp only [List.length_set])
  rw [zk_gs (by omega)]
theorem zc_hrt {h : zk_H} {V : Nat → zo_O} {uk ut un : Nat → Nat} {ua : Nat → Int32} {uc : Nat} {B E : Nat → Int32} {v o : Nat} {t : Nat} (hS : zc_at h V uk ut un ua uc B E) (hv : v < 2) (e : 9 * v + 1 = o) : zc_at (((((h.set (o + 1) (.inl (0, 6, .inl (upd (V v 0) t (-1))))).set (o + 2) (.inl (0, 6, .inl (upd (V v 1) t (nI 6))))).set (o + 3) (.inl (0, 6, .inl (upd (V v 2) t (nI 0))))).set (o + 4) (.inl (0, 24, .inl (zo_cl (t * 4) 4 0 (V v 3))))).set (o + 7) (.inl (0, 72, .inl (zo_cl (t * 12) 12 0 (V v 6))))) (zc_up V v (zc_rt (V v) t)) uk ut un ua uc B E ∧ zc_fr h (((((h.set (o + 1) (.inl (0, 6, .inl (upd (V v 0) t (-1))))).set (o + 2) (.inl (0, 6, .inl (upd (V v 1) t (nI 6))))).set (o + 3) (.inl (0, 6, .inl (upd (V v 2) t (nI 0))))).set (o + 4) (.inl (0, 24, .inl (zo_cl (t * 4) 4 0 (V v 3))))).set (o + 7) (.inl (0, 72, .inl (zo_cl (t * 12) 12 0 (V v 6))))) := by
  have hO := zc_o hS hv
  subst e
  obtain ⟨ho, a0, a1, a2, a3, a4, a5, a6, a7⟩ := hO
  refine zc_off hS hv ⟨(zk_g1 (by omega) (zk_g1 (by omega) (zk_g1 (by omega) (zk_g1 (by omega) (zk_g1 (by omega) ho))))), (zk_g1 (by omega) (zk_g1 (by omega) (zk_g1 (by omega) (zk_g1 (by omega) (zk_g0 a0))))), (zk_g1 (by omega) (zk_g1 (by omega) (zk_g1 (by omega) (zk_g0 (zk_g1 (by omega) a1))))), (zk_g1 (by omega) (zk_g1 (by omega) (zk_g0 (zk_g1 (by omega) (zk_g1 (by omega) a2))))), (zk_g1 (by omega) (zk_g0 (zk_g1 (by omega) (zk_g1 (by omega) (zk_g1 (by omega) a3))))), (zk_g1 (by omega) (zk_g1 (by omega) (zk_g1 (by omega) (zk_g1 (by omega) (zk_g1 (by omega) a4))))), (zk_g1 (by omega) (zk_g1 (by omega) (zk_g1 (by omega) (zk_g1 (by omega) (zk_g1 (by omega) a5))))), (zk_g0 (zk_g1 (by omega) (zk_g1 (by omega) (zk_g1 (by omega) (zk_g1 (by omega) a6))))), (zk_g1 (by omega) (zk_g1 (by omega) (zk_g1 (by omega) (zk_g1 (by omega) (zk_g1 (by omega) a7)))))⟩ (fun j hj => ?_) (by simp only [List.length_set])
  rw [zk_gs (by omega)]; rw [zk_gs (by omega)]; rw [zk_gs (by omega)]; rw [zk_gs (by omega)]; rw [zk_gs (by omega)]
theorem zc_hcp {h : zk_H} {V : Nat → zo_O} {uk ut un : Nat → Nat} {ua : Nat → Int32} {uc : Nat} {B E : Nat → Int32} {v o : Nat} {P : zo_O} (hS : zc_at h V uk ut un ua uc B E) (hv : v < 2) (e : 9 * v + 1 = o) : zc_at ((((((((h.set (o + 1) (.inl (0, 6, .inl (va_cpy (P 0) (V v 0) 0 0 6)))).set (o + 2) (.inl (0, 6, .inl (va_cpy (P 1) (V v 1) 0 0 6)))).set (o + 3) (.inl (0, 6, .inl (va_cpy (P 2) (V v 2) 0 0 6)))).set (o + 4) (.inl (0, 24, .inl (va_cpy (P 3) (V v 3) 0 0 24)))).set (o + 5) (.inl (0, 24, .inl (va_cpy (P 4) (V v 4) 0 0 24)))).set (o + 6) (.inl (0, 24, .inl (va_cpy (P 5) (V v 5) 0 0 24)))).set (o + 7) (.inl (0, 72, .inl (va_cpy (P 6) (V v 6) 0 0 72)))).set (o + 8) (.inl (0, 72, .inl (va_cpy (P 7) (V v 7) 0 0 72)))) (zc_up V v (zc_cp (V v) P)) uk ut un ua uc B E ∧ zc_fr h ((((((((h.set (o + 1) (.inl (0, 6, .inl (va_cpy (P 0) (V v 0) 0 0 6)))).set (o + 2) (.inl (0, 6, .inl (va_cpy (P 1) (V v 1) 0 0 6)))).set (o + 3) (.inl (0, 6, .inl (va_cpy (P 2) (V v 2) 0 0 6)))).set (o + 4) (.inl (0, 24, .inl (va_cpy (P 3) (V v 3) 0 0 24)))).set (o + 5) (.inl (0, 24, .inl (va_cpy (P 4) (V v 4) 0 0 24)))).set (o + 6) (.inl (0, 24, .inl (va_cpy (P 5) (V v 5) 0 0 24)))).set (o + 7) (.inl (0, 72, .inl (va_cpy (P 6) (V v 6) 0 0 72)))).set (o + 8) (.inl (0, 72, .inl (va_cpy (P 7) (V v 7) 0 0 72)))) := by
  have hO := zc_o hS hv
  subst e
  obtain ⟨ho, a0, a1, a2, a3, a4, a5, a6, a7⟩ := hO
  refine zc_off hS hv ⟨(zk_g1 (by omega) (zk_g1 (by omega) (zk_g1 (by omega) (zk_g1 (by omega) (zk_g1 (by omega) (zk_g1 (by omega) (zk_g1 (by omega) (zk_g1 (by omega) ho)))))))), (zk_g1 (by omega) (zk_g1 (by omega) (zk_g1 (by omega) (zk_g1 (by omega) (zk_g1 (by omega) (zk_g1 (by omega) (zk_g1 (by omega) (zk_g0 a0)))))))), (zk_g1 (by omega) (zk_g1 (by omega) (zk_g1 (by omega) (zk_g1 (by omega) (zk_g1 (by omega) (zk_g1 (by omega) (zk_g0 (zk_g1 (by omega) a1)))))))), (zk_g1 (by omega) (zk_g1 (by omega) (zk_g1 (by omega) (zk_g1 (by omega) (zk_g1 (by omega) (zk_g0 (zk_g1 (by omega) (zk_g1 (by omega) a2)))))))), (zk_g1 (by omega) (zk_g1 (by omega) (zk_g1 (by omega) (zk_g1 (by omega) (zk_g0 (zk_g1 (by omega) (zk_g1 (by omega) (zk_g1 (by omega) a3)))))))), (zk_g1 (by omega) (zk_g1 (by omega) (zk_g1 (by omega) (zk_g0 (zk_g1 (by omega) (zk_g1 (by omega) (zk_g1 (by omega) (zk_g1 (by omega) a4)))))))), (zk_g1 (by omega) (zk_g1 (by omega) (zk_g0 (zk_g1 (by omega) (zk_g1 (by omega) (zk_g1 (by omega) (zk_g1 (by omega) (zk_g1 (by omega) a5)))))))), (zk_g1 (by omega) (zk_g0 (zk_g1 (by omega) (zk_g1 (by omega) (zk_g1 (by omega) (zk_g1 (by omega) (zk_g1 (by omega) (zk_g1 (by omega) a6)))))))), (zk_g0 (zk_g1 (by omega) (zk_g1 (by omega) (zk_g1 (by omega) (zk_g1 (by omega) (zk_g1 (by omega) (zk_g1 (by omega) (zk_g1 (by omega) a7))))))))⟩ (fun j hj => ?_) (by simp only [List.length_set])
  rw [zk_gs (by omega)]; rw [zk_gs (by omega)]; rw [zk_gs (by omega)]; rw [zk_gs (by omega)]; rw [zk_gs (by omega)]; rw [zk_gs (by omega)]; rw [zk_gs (by omega)]; rw [zk_gs (by omega)]
abbrev rm_A_isBelow : Room := { frames := 0, cells := 0, slots := 0, locals := 0 }
set_option maxHeartbeats 4000000 in
set_option maxRecDepth 100000 in
/-- isBelow -/
theorem sp_A_isBelow (l : Launch) {h : zk_H} {x y : Int32} {K : Option Value → zk_H → Prop} (hK : K (some (.int (zk_b (zc_bl x y)))) h) : zk_S l y_A_isBelow b_A_isBelow 2 (some .boolean) rm_A_isBelow [.int x, .int y] h K := by
  refine zk_S_of R_A "isBelow" (by decide) rfl rfl [some (.int x), some (.int y)] 0 rfl (Nat.le_of_ble_eq_true rfl) (fun p e s m ar below meth c D dA b base C => ?_)
  refine zr_iload_n C d_A_isBelow_0 (n := 1) rfl rfl ?_
  refine zr_if_lt C d_A_isBelow_1 (n := 4) rfl (t := 13) (by decide) (fun c1 => ?_) (fun c1 => ?_)
  · refine zr_iconst C d_A_isBelow_13 (n := 14) rfl (v := nI 0) (by decide) ?_
    exact zr_zret C d_A_isBelow_14 (by first | (simp [zc_bl, zk_b, c1]; done) | simp_all [zc_bl, zk_b]) (by decide) hK (Nat.zero_le _) (Nat.zero_le _)
  · refine zr_iload_n C d_A_isBelow_4 (n := 5) rfl rfl ?_
    refine zr_iload_n C d_A_isBelow_5 (n := 6) rfl rfl ?_
    refine zr_icmp_ge C d_A_isBelow_6 (n := 9) rfl (t := 13) (by decide) (fun c2 => ?_) (fun c2 => ?_)
    · refine zr_iconst C d_A_isBelow_13 (n := 14) rfl (v := nI 0) (by decide) ?_
      exact zr_zret C d_A_isBelow_14 (by first | (simp [zc_bl, zk_b, c1, c2]; done) | simp_all [zc_bl, zk_b]) (by decide) hK (Nat.zero_le _) (Nat.zero_le _)
    · refine zr_iconst C d_A_isBelow_9 (n := 10) rfl (v := nI 1) (by decide) ?_
      refine zr_goto C d_A_isBelow_10 (t := 14) (by decide) ?_
      exact zr_zret C d_A_isBelow_14 (by first | (simp [zc_bl, zk_b, c1, c2]; done) | simp_all [zc_bl, zk_b]) (by decide) hK (Nat.zero_le _) (Nat.zero_le _)
abbrev rm_A_areFieldFlags : Room := { frames := 1, cells := 0, slots := 0, locals := 21 }
set_option maxHeartbeats 4000000 in
set_option maxRecDepth 100000 in
/-- areFieldFlags -/
theorem sp_A_areFieldFlags (l : Launch) {h : zk_H} {x : Int32} {K : Option Value → zk_H → Prop} (hK : K (some (.int (zk_b (zc_ff x)))) h) : zk_S l y_A_areFieldFlags b_A_areFieldFlags 2 (some .boolean) rm_A_areFieldFlags [.int x] h K := by
  refine zk_S_of R_A "areFieldFlags" (by decide) rfl rfl [some (.int x), none] 1 rfl (Nat.le_of_ble_eq_true rfl) (fun p e s m ar below meth c D dA b base C => ?_)
  refine zr_iload_n C d_A_areFieldFlags_0 (n := 1) rfl rfl ?_
  refine zr_bipush C d_A_areFieldFlags_1 (n := 3) rfl (v := nI 32) (by decide) ?_
  refine zr_callS2 C k_A_40 d_A_areFieldFlags_3 (nx := 6) rfl ⟨by decide, by decide⟩ (Nat.le_of_ble_eq_true rfl) ⟨by decide, by decide⟩ (sp_A_isBelow l ?_)
  refine zr_if_eq C d_A_areFieldFlags_6 (n := 9) rfl (t := 15) (by decide) (fun c1 => ?_) (fun c1 => ?_)
  · replace c1 := zk_bz c1
    refine zr_iconst C d_A_areFieldFlags_15 (n := 16) rfl (v := nI 0) (by decide) ?_
    exact zr_zret C d_A_areFieldFlags_16 (by first | (simp [zc_ff, zk_b, c1]; done) | simp_all [zc_ff, zk_b]) (by decide) hK (Nat.zero_le _) (Nat.zero_le _)
  · replace c1 := zk_bn c1
    refine zr_iload_n C d_A_areFieldFlags_9 (n := 10) rfl rfl ?_
    refine zr_iconst C d_A_areFieldFlags_10 (n := 11) rfl (v := nI 2) (by decide) ?_
    refine zr_iand C d_A_areFieldFlags_11 (n := 12) rfl ?_
    refine zr_if_eq C d_A_areFieldFlags_12 (n := 15) rfl (t := 17) (by decide) (fun c2 => ?_) (fun c2 => ?_)
    · replace c2 := zb_nzf c2
      refine zr_iconst C d_A_areFieldFlags_17 (n := 18) rfl (v := nI 5) (by decide) ?_
      refine zr_istore_n C d_A_areFieldFlags_18 (n := 19) rfl (by decide) rfl ?_
      refine zr_iload_n C d_A_areFieldFlags_19 (n := 20) rfl rfl ?_
      refine zr_bipush C d_A_areFieldFlags_20 (n := 22) rfl (v := nI 16) (by decide) ?_
      refine zr_iand C d_A_areFieldFlags_22 (n := 23) rfl ?_
      refine zr_if_eq C d_A_areFieldFlags_23 (n := 26) rfl (t := 33) (by decide) (fun c3 => ?_) (fun c3 => ?_)
      · replace c3 := zb_nzf c3
        refine zr_iconst C d_A_areFieldFlags_33 (n := 34) rfl (v := nI 1) (by decide) ?_
        refine zr_goto C d_A_areFieldFlags_34 (t := 38) (by decide) ?_
        exact zr_zret C d_A_areFieldFlags_38 (by first | (simp [zc_ff, zk_b, c1, c2, c3]; done) | simp_all [zc_ff, zk_b]) (by decide) hK (Nat.zero_le _) (Nat.zero_le _)
      · replace c3 := zb_nzt c3
        refine zr_iload_n C d_A_areFieldFlags_26 (n := 27) rfl rfl ?_
        refine zr_iload_n C d_A_areFieldFlags_27 (n := 28) rfl rfl ?_
        refine zr_iand C d_A_areFieldFlags_28 (n := 29) rfl ?_
        refine zr_iload_n C d_A_areFieldFlags_29 (n := 30) rfl rfl ?_
        refine zr_icmp_ne C d_A_areFieldFlags_30 (n := 33) rfl (t := 37) (by decide) (fun c4 => ?_) (fun c4 => ?_)
        · refine zr_iconst C d_A_areFieldFlags_37 (n := 38) rfl (v := nI 0) (by decide) ?_
          exact zr_zret C d_A_areFieldFlags_38 (by first | (simp [zc_ff, zk_b, c1, c2, c3, c4]; done) | simp_all [zc_ff, zk_b]) (by decide) hK (Nat.zero_le _) (Nat.zero_le _)
        · refine zr_iconst C d_A_areFieldFlags_33 (n := 34) rfl (v := nI 1) (by decide) ?_
          refine zr_goto C d_A_areFieldFlags_34 (t := 38) (by decide) ?_
          exact zr_zret C d_A_areFieldFlags_38 (by first | (simp [zc_ff, zk_b, c1, c2, c3, c4]; done) | simp_all [zc_ff, zk_b]) (by decide) hK (Nat.zero_le _) (Nat.zero_le _)
    · replace c2 := zb_nzt c2
      refine zr_iconst C d_A_areFieldFlags_15 (n := 16) rfl (v := nI 0) (by decide) ?_
      exact zr_zret C d_A_areFieldFlags_16 (by first | (simp [zc_ff, zk_b, c1, c2]; done) | simp_all [zc_ff, zk_b]) (by decide) hK (Nat.zero_le _) (Nat.zero_le _)
abbrev rm_A_areMethodFlags : Room := { frames := 1, cells := 0, slots := 0, locals := 21 }
set_option maxHeartbeats 4000000 in
set_option maxRecDepth 100000 in
/-- areMethodFlags -/
theorem sp_A_areMethodFlags (l : Launch) {h : zk_H} {x : Int32} {K : Option Value → zk_H → Prop} (hK : K (some (.int (zk_b (zc_mf x)))) h) : zk_S l y_A_areMethodFlags b_A_areMethodFlags 1 (some .boolean) rm_A_areMethodFlags [.int x] h K := by
  refine zk_S_of R_A "areMethodFlags" (by decide) rfl rfl [some (.int x)] 0 rfl (Nat.le_of_ble_eq_true rfl) (fun p e s m ar below meth c D dA b base C => ?_)
  refine zr_iload_n C d_A_areMethodFlags_0 (n := 1) rfl rfl ?_
  refine zr_bipush C d_A_areMethodFlags_1 (n := 3) rfl (v := nI 16) (by decide) ?_
  refine zr_callS2 C k_A_40 d_A_areMethodFlags_3 (nx := 6) rfl ⟨by decide, by decide⟩ (Nat.le_of_ble_eq_true rfl) ⟨by decide, by decide⟩ (sp_A_isBelow l ?_)
  refine zr_if_ne C d_A_areMethodFlags_6 (n := 9) rfl (t := 11) (by decide) (fun c1 => ?_) (fun c1 => ?_)
  · replace c1 := zk_bn c1
    refine zr_iload_n C d_A_areMethodFlags_11 (n := 12) rfl rfl ?_
    refine zr_iconst C d_A_areMethodFlags_12 (n := 13) rfl (v := nI 2) (by decide) ?_
    refine zr_iand C d_A_areMethodFlags_13 (n := 14) rfl ?_
    refine zr_if_eq C d_A_areMethodFlags_14 (n := 17) rfl (t := 22) (by decide) (fun c2 => ?_) (fun c2 => ?_)
    · replace c2 := zb_nzf c2
      refine zr_iconst C d_A_areMethodFlags_22 (n := 23) rfl (v := nI 1) (by decide) ?_
      refine zr_goto C d_A_areMethodFlags_23 (t := 27) (by decide) ?_
      exact zr_zret C d_A_areMethodFlags_27 (by first | (simp [zc_mf, zk_b, c1, c2]; done) | simp_all [zc_mf, zk_b]) (by decide) hK (Nat.zero_le _) (Nat.zero_le _)
    · replace c2 := zb_nzt c2
      refine zr_iload_n C d_A_areMethodFlags_17 (n := 18) rfl rfl ?_
      refine zr_iconst C d_A_areMethodFlags_18 (n := 19) rfl (v := nI 2) (by decide) ?_
      refine zr_icmp_ne C d_A_areMethodFlags_19 (n := 22) rfl (t := 26) (by decide) (fun c3 => ?_) (fun c3 => ?_)
      · refine zr_iconst C d_A_areMethodFlags_26 (n := 27) rfl (v := nI 0) (by decide) ?_
        exact zr_zret C d_A_areMethodFlags_27 (by first | (simp [zc_mf, zk_b, c1, c2, c3]; done) | simp_all [zc_mf, zk_b]) (by decide) hK (Nat.zero_le _) (Nat.zero_le _)
      · refine zr_iconst C d_A_areMethodFlags_22 (n := 23) rfl (v := nI 1) (by decide) ?_
        refine zr_goto C d_A_areMethodFlags_23 (t := 27) (by decide) ?_
        exact zr_zret C d_A_areMethodFlags_27 (by first | (simp [zc_mf, zk_b, c1, c2, c3]; done) | simp_all [zc_mf, zk_b]) (by decide) hK (Nat.zero_le _) (Nat.zero_le _)
  · replace c1 := zk_bz c1
    refine zr_iconst C d_A_areMethodFlags_9 (n := 10) rfl (v := nI 0) (by decide) ?_
    exact zr_zret C d_A_areMethodFlags_10 (by first | (simp [zc_mf, zk_b, c1]; done) | simp_all [zc_mf, zk_b]) (by decide) hK (Nat.zero_le _) (Nat.zero_le _)
abbrev rm_A_offerOf : Room := { frames := 0, cells := 0, slots := 0, locals := 0 }
set_option maxHeartbeats 4000000 in
set_option maxRecDepth 100000 in
/-- offerOf -/
theorem sp_A_offerOf (l : Launch) {h : zk_H} {V : Nat → zo_O} {uk ut un : Nat → Nat} {ua : Nat → Int32} {uc : Nat} {B E : Nat → Int32} (hS : zc_at h V uk ut un ua uc B E) {v : Nat} (hv : v < 2) {K : Option Value → zk_H → Prop} (hK : K (some (.ref (9 * v + 1 + 1))) h) : zk_S l y_A_offerOf b_A_offerOf 2 (some (.object "ApiCompare$Offer")) rm_A_offerOf [.ref (0 + 1), .int (nI v)] h K := by
  refine zk_S_of R_A "offerOf" (by decide) rfl rfl [some (.ref (0 + 1)), some (.int (nI v))] 0 rfl (Nat.le_of_ble_eq_true rfl) (fun p e s m ar below meth c D dA b base C => ?_)
  rcases (show v = 0 ∨ v = 1 by omega) with rfl | rfl
  · refine zr_iload_n C d_A_offerOf_0 (n := 1) rfl rfl ?_
    refine zr_if_ne C d_A_offerOf_1 (n := 4) rfl (t := 11) (by decide) (fun c1 => ?_) (fun c1 => ?_)
    · exact absurd (by decide) c1
    · refine zr_aload_n C d_A_offerOf_4 (n := 5) rfl rfl ?_
      refine zr_get C f_A_12 d_A_offerOf_5 (n := 8) rfl hS.1 rfl ?_
      refine zr_goto C d_A_offerOf_8 (t := 15) (by decide) ?_
      exact zr_aret C d_A_offerOf_15 hK (Nat.zero_le _) (Nat.zero_le _)
  · refine zr_iload_n C d_A_offerOf_0 (n := 1) rfl rfl ?_
    refine zr_if_ne C d_A_offerOf_1 (n := 4) rfl (t := 11) (by decide) (fun c1 => ?_) (fun c1 => ?_)
    · refine zr_aload_n C d_A_offerOf_11 (n := 12) rfl rfl ?_
      refine zr_get C f_A_16 d_A_offerOf_12 (n := 15) rfl hS.1 rfl ?_
      exact zr_aret C d_A_offerOf_15 hK (Nat.zero_le _) (Nat.zero_le _)
    · exact absurd c1 (by decide)
def zc_tt (V : Nat → zo_O) (x y : Int32) : Bool := zc_bl x (nI 2) && zc_bl y (nI 6) && zo_th (V x.toNatClampNeg) y.toNatClampNeg
abbrev rm_A_isTypeThere : Room := { frames := 1, cells := 0, slots := 0, locals := 21 }
set_option maxHeartbeats 4000000 in
set_option maxRecDepth 100000 in
/-- isTypeThere -/
theorem sp_A_isTypeThere (l : Launch) {h : zk_H} {V : Nat → zo_O} {uk ut un : Nat → Nat} {ua : Nat → Int32} {uc : Nat} {B E : Nat → Int32} (hS : zc_at h V uk ut un ua uc B E) {x y : Int32} {K : Option Value → zk_H → Prop} (hK : K (some (.int (zk_b (zc_tt V x y)))) h) : zk_S l y_A_isTypeThere b_A_isTypeThere 3 (some .boolean) rm_A_isTypeThere [.ref (0 + 1), .int x, .int y] h K := by
  refine zk_S_of R_A "isTypeThere" (by decide) rfl rfl [some (.ref (0 + 1)), some (.int x), some (.int y)] 0 rfl (Nat.le_of_ble_eq_true rfl) (fun p e s m ar below meth c D dA b base C => ?_)
  refine zr_iload_n C d_A_isTypeThere_0 (n := 1) rfl rfl ?_
  refine zr_iconst C d_A_isTypeThere_1 (n := 2) rfl (v := nI 2) (by decide) ?_
  refine zr_callS2 C k_A_40 d_A_isTypeThere_2 (nx := 5) rfl ⟨by decide, by decide⟩ (Nat.le_of_ble_eq_true rfl) ⟨by decide, by decide⟩ (sp_A_isBelow l ?_)
  refine zr_if_eq C d_A_isTypeThere_5 (n := 8) rfl (t := 33) (by decide) (fun c1 => ?_) (fun c1 => ?_)
  · replace c1 := zk_bz c1
    refine zr_iconst C d_A_isTypeThere_33 (n := 34) rfl (v := nI 0) (by decide) ?_
    exact zr_zret C d_A_isTypeThere_34 (by simp [zc_tt, zk_b, c1]) (by decide) hK (Nat.zero_le _) (Nat.zero_le _)
  · replace c1 := zk_bn c1
    obtain ⟨v, hv, rfl, qv⟩ := zc_bl_n c1 (by decide)
    refine zr_iload_n C d_A_isTypeThere_8 (n := 9) rfl rfl ?_
    refine zr_bipush C d_A_isTypeThere_9 (n := 11) rfl (v := nI 6) (by decide) ?_
    refine zr_callS2 C k_A_40 d_A_isTypeThere_11 (nx := 14) rfl ⟨by decide, by decide⟩ (Nat.le_of_ble_eq_true rfl) ⟨by decide, by decide⟩ (sp_A_isBelow l ?_)
    refine zr_if_eq C d_A_isTypeThere_14 (n := 17) rfl (t := 33) (by decide) (fun c2 => ?_) (fun c2 => ?_)
    · replace c2 := zk_bz c2
      refine zr_iconst C d_A_isTypeThere_33 (n := 34) rfl (v := nI 0) (by decide) ?_
      exact zr_zret C d_A_isTypeThere_34 (by simp [zc_tt, zk_b, c1, c2]) (by decide) hK (Nat.zero_le _) (Nat.zero_le _)
    · replace c2 := zk_bn c2
      obtain ⟨t, ht, rfl, qt⟩ := zc_bl_n c2 (by decide)
      refine zr_aload_n C d_A_isTypeThere_17 (n := 18) rfl rfl ?_
      refine zr_iload_n C d_A_isTypeThere_18 (n := 19) rfl rfl ?_
      refine zr_callV1 C k_A_44 d_A_isTypeThere_19 (nx := 22) rfl hS.1 rfl ⟨by decide, by decide⟩ (Nat.le_of_ble_eq_true rfl) ⟨by decide, by decide⟩ (sp_A_offerOf l hS hv ?_)
      have hO := zc_o hS hv
      have ho := hO.1
      refine zr_iload_n C d_A_isTypeThere_22 (n := 23) rfl rfl ?_
      refine zr_callV1 C k_A_52 d_A_isTypeThere_23 (nx := 26) rfl ho rfl ⟨by decide, by decide⟩ (Nat.le_of_ble_eq_true rfl) ⟨by decide, by decide⟩ (sp_O_isThere l hO ht ?_)
      refine zr_if_eq C d_A_isTypeThere_26 (n := 29) rfl (t := 33) (by decide) (fun c3 => ?_) (fun c3 => ?_)
      · replace c3 := zk_bz c3
        refine zr_iconst C d_A_isTypeThere_33 (n := 34) rfl (v := nI 0) (by decide) ?_
        exact zr_zret C d_A_isTypeThere_34 (by simp [zc_tt, zk_b, qv, qt, c1, c2, c3]) (by decide) hK (Nat.zero_le _) (Nat.zero_le _)
      · replace c3 := zk_bn c3
        refine zr_iconst C d_A_isTypeThere_29 (n := 30) rfl (v := nI 1) (by decide) ?_
        refine zr_goto C d_A_isTypeThere_30 (t := 34) (by decide) ?_
        exact zr_zret C d_A_isTypeThere_34 (by simp [zc_tt, zk_b, qv, qt, c1, c2, c3]) (by decide) hK (Nat.zero_le _) (Nat.zero_le _)
end
section
def zc_R (c : Bool) : Int32 := if c = true then nI 0 else -1
def zc_W (c : Bool) (V V1 : Nat → zo_O) : Nat → zo_O := if c = true then V1 else V
theorem zk_bi {a b : Bool} (h : zk_b a = zk_b b) : a = b := by
  cases a <;> cases b
  · rfl
  · exact absurd h (by decide)
  · exact absurd h (by decide)
  · rfl
theorem zk_bj {a b : Bool} (h : ¬ zk_b a = zk_b b) : ¬ a = b := fun q => h (by rw [q])
def zc_ty1 (x2 : Int32) (sp : Nat) : Bool := !zb_nz x2 (nI 1) || (!zb_nz x2 (nI 4) && decide (sp = 6))
def zc_typeC (V : Nat → zo_O) (x0 x1 x2 x3 x4 : Int32) : Bool := zc_bl x0 (nI 2) && zc_bl x1 (nI 6) && zc_bl x2 (nI 16) && zc_bl x3 (nI 7) && zc_bl x4 (nI 64) && zc_ty1 x2 x3.toNatClampNeg && zo_cn (V x0.toNatClampNeg) x1.toNatClampNeg x3.toNatClampNeg x4 && !(zo_th (V x0.toNatClampNeg) x1.toNatClampNeg && decide (¬ zo_hf (V x0.toNatClampNeg) x1.toNatClampNeg (nI 1) = zb_nz x2 (nI 1)) && zo_nmL (V x0.toNatClampNeg) x1.toNatClampNeg 6 0)
def zc_dropC (V : Nat → zo_O) (x0 x1 : Int32) : Bool := zc_tt V x0 x1 && !zo_nmL (V x0.toNatClampNeg) x1.toNatClampNeg 6 0
def zc_fieldC (V : Nat → zo_O) (x0 x1 x2 : Int32) : Bool := zc_bl x0 (nI 24) && zc_bl x1 (nI 4) && zc_ff x2 && zo_th (V (x0.toNatClampNeg / 12)) (x0.toNatClampNeg / 2 % 6)
def zc_methC (V : Nat → zo_O) (x0 x1 x2 x3 : Int32) : Bool := zc_bl x0 (nI 12) && zc_bl x1 (nI 3) && zc_bl x2 (nI 16) && zc_mf x3 && zo_th (V (x0.toNatClampNeg / 6)) (x0.toNatClampNeg % 6)
/-- cut: none of a field, none of a method -/
def zc_cutF (V : Nat → zo_O) (x0 x1 x2 x3 : Int32) : Bool := zc_tt V x0 x1 && decide (x3 = nI 4) && zc_bl x2 (nI 4) && zo_fth (V x0.toNatClampNeg) (x1.toNatClampNeg * 4 + x2.toNatClampNeg)
def zc_cutM (V : Nat → zo_O) (x0 x1 x2 x3 : Int32) : Bool := zc_tt V x0 x1 && !decide (x3 = nI 4) && zc_bl x2 (nI 3) && zc_bl x3 (nI 4) && zo_mth (V x0.toNatClampNeg) (x1.toNatClampNeg * 12 + x2.toNatClampNeg * 4 + x3.toNatClampNeg)
theorem zc_tt_n {V : Nat → zo_O} {x y : Int32} (h : zc_tt V x y = true) : ∃ v t, v < 2 ∧ t < 6 ∧ x = nI v ∧ y = nI t ∧ (nI v).toNatClampNeg = v ∧ (nI t).toNatClampNeg = t := by
  unfold zc_tt at h
  simp only [Bool.and_eq_true] at h
  obtain ⟨v, hv, e1, q1⟩ := zc_bl_n h.1.1 (by decide)
  obtain ⟨t, ht, e2, q2⟩ := zc_bl_n h.1.2 (by decide)
  exact ⟨v, t, hv, ht, e1, e2, q1, q2⟩
abbrev rm_A_type : Room := { frames := 3, cells := 0, slots := 0, locals := 67 }
set_option maxHeartbeats 4000000 in
set_option maxRecDepth 100000 in
/-- type -/
theorem sp_A_type (l : Launch) {h : zk_H} {V : Nat → zo_O} {uk ut un : Nat → Nat} {ua : Nat → Int32} {uc : Nat} {B E : Nat → Int32} (hS : zc_at h V uk ut un ua uc B E) {x0 x1 x2 x3 x4 : Int32} {K : Option Value → zk_H → Prop} (hK : ∀ (h' : zk_H) (B' E' : Nat → Int32), zc_at h' (zc_W (zc_typeC V x0 x1 x2 x3 x4) V (zc_up V x0.toNatClampNeg (zc_pt (V x0.toNatClampNeg) x1.toNatClampNeg x2 x3 x4))) uk ut un ua uc B' E' → zc_fr h h' → K (some (.int (zc_R (zc_typeC V x0 x1 x2 x3 x4)))) h') : zk_S l y_A_type b_A_type 8 (some .int) rm_A_type [.ref (0 + 1), .int x0, .int x1, .int x2, .int x3, .int x4] h K := by
  refine zk_S_of R_A "type" (by decide) rfl rfl [some (.ref (0 + 1)), some (.int x0), some (.int x1), some (.int x2), some (.int x3), some (.int x4), none, none] 2 rfl (Nat.le_of_ble_eq_true rfl) (fun p e s m ar below meth c D dA b base C => ?_)
  have J90 : ∀ (v t sp : Nat) (hv : v < 2) (ht : t < 6) (hsp : sp < 7) (qv : (nI v).toNatClampNeg = v) (qt : (nI t).toNatClampNeg = t) (qsp : (nI sp).toNatClampNeg = sp) (k1 : zc_bl (nI v) (nI 2) = true) (k2 : zc_bl (nI t) (nI 6) = true) (k3 : zc_bl x2 (nI 16) = true) (k4 : zc_bl (nI sp) (nI 7) = true) (k5 : zc_bl x4 (nI 64) = true) (k6 : zc_ty1 x2 sp = true), (∀ (h' : zk_H) (B' E' : Nat → Int32), zc_at h' (zc_W (zc_typeC V (nI v) (nI t) x2 (nI sp) x4) V (zc_up V (nI v).toNatClampNeg (zc_pt (V (nI v).toNatClampNeg) (nI t).toNatClampNeg x2 (nI sp) x4))) uk ut un ua uc B' E' → zc_fr h h' → K (some (.int (zc_R (zc_typeC V (nI v) (nI t) x2 (nI sp) x4)))) h') → zk_V p l e rm_A_type s m ar below meth c 8 D dA b base (MQ below (zk_Q K D dA b base) ar s rm_A_type.cells rm_A_type.slots (fun q : Nat => base ≤ q)) 0 0 90 [some (.ref (0 + 1)), some (.int (nI v)), some (.int (nI t)), some (.int x2), some (.int (nI sp)), some (.int x4), some (.ref (9 * v + 1 + 1)), some (.int (zk_b (zb_nz x2 (nI 1))))] [] h := by
    intro v t sp hv ht hsp qv qt qsp k1 k2 k3 k4 k5 k6 hK
    have hO := zc_o hS hv
    have ho := hO.1
    refine zr_aload C d_A_type_90 (n := 92) rfl rfl ?_
    refine zr_iload_n C d_A_type_92 (n := 93) rfl rfl ?_
    refine zr_iload C d_A_type_93 (n := 95) rfl rfl ?_
    refine zr_iload C d_A_type_95 (n := 97) rfl rfl ?_
    refine zr_callV3 C k_A_48 d_A_type_97 (nx := 100) rfl ho rfl ⟨by decide, by decide⟩ (Nat.le_of_ble_eq_true rfl) ⟨by decide, by decide⟩ (sp_O_canName l hO ht (by omega) ?_)
    refine zr_if_ne C d_A_type_100 (n := 103) rfl (t := 105) (by decide) (fun c1 => ?_) (fun c1 => ?_)
    · replace c1 := zk_bn c1
      refine zr_aload C d_A_type_105 (n := 107) rfl rfl ?_
      refine zr_iload_n C d_A_type_107 (n := 108) rfl rfl ?_
      refine zr_callV1 C k_A_52 d_A_type_108 (nx := 111) rfl ho rfl ⟨by decide, by decide⟩ (Nat.le_of_ble_eq_true rfl) ⟨by decide, by decide⟩ (sp_O_isThere l hO ht ?_)
      refine zr_if_eq C d_A_type_111 (n := 114) rfl (t := 136) (by decide) (fun c2 => ?_) (fun c2 => ?_)
      · replace c2 := zk_bz c2
        refine zr_aload C d_A_type_136 (n := 138) rfl rfl ?_
        refine zr_iload_n C d_A_type_138 (n := 139) rfl rfl ?_
        refine zr_iload_n C d_A_type_139 (n := 140) rfl rfl ?_
        refine zr_iload C d_A_type_140 (n := 142) rfl rfl ?_
        refine zr_iload C d_A_type_142 (n := 144) rfl rfl ?_
        refine zr_callV4 C k_A_62 d_A_type_144 (nx := 147) rfl ho rfl ⟨by decide, by decide⟩ (Nat.le_of_ble_eq_true rfl) ⟨by decide, by decide⟩ (sp_O_putType l hO ht ?_)
        refine zr_iconst C d_A_type_147 (n := 148) rfl (v := nI 0) (by decide) ?_
        exact zr_iret C d_A_type_148 rfl (by have e9 : zc_typeC V (nI v) (nI t) x2 (nI sp) x4 = true := (by simp [zc_typeC, qv, qt, qsp, k6, k1, k2, k3, k4, k5, c1, c2]); rw [e9] at hK; simp only [zc_W, zc_R, if_true, qv, qt] at hK; exact hK _ B E (zc_hpt hS hv rfl).1 (zc_hpt hS hv rfl).2) (Nat.zero_le _) (Nat.zero_le _)
      · replace c2 := zk_bn c2
        refine zr_aload C d_A_type_114 (n := 116) rfl rfl ?_
        refine zr_iload_n C d_A_type_116 (n := 117) rfl rfl ?_
        refine zr_callV1 C k_A_56 d_A_type_117 (nx := 120) rfl ho rfl ⟨by decide, by decide⟩ (Nat.le_of_ble_eq_true rfl) ⟨by decide, by decide⟩ (sp_O_isInterface l hO ht ?_)
        refine zr_iload C d_A_type_120 (n := 122) rfl rfl ?_
        refine zr_icmp_eq C d_A_type_122 (n := 125) rfl (t := 136) (by decide) (fun c3 => ?_) (fun c3 => ?_)
        · replace c3 := zk_bi c3
          refine zr_aload C d_A_type_136 (n := 138) rfl rfl ?_
          refine zr_iload_n C d_A_type_138 (n := 139) rfl rfl ?_
          refine zr_iload_n C d_A_type_139 (n := 140) rfl rfl ?_
          refine zr_iload C d_A_type_140 (n := 142) rfl rfl ?_
          refine zr_iload C d_A_type_142 (n := 144) rfl rfl ?_
          refine zr_callV4 C k_A_62 d_A_type_144 (nx := 147) rfl ho rfl ⟨by decide, by decide⟩ (Nat.le_of_ble_eq_true rfl) ⟨by decide, by decide⟩ (sp_O_putType l hO ht ?_)
          refine zr_iconst C d_A_type_147 (n := 148) rfl (v := nI 0) (by decide) ?_
          exact zr_iret C d_A_type_148 rfl (by have e9 : zc_typeC V (nI v) (nI t) x2 (nI sp) x4 = true := (by simp [zc_typeC, qv, qt, qsp, k6, k1, k2, k3, k4, k5, c1, c2, c3]); rw [e9] at hK; simp only [zc_W, zc_R, if_true, qv, qt] at hK; exact hK _ B E (zc_hpt hS hv rfl).1 (zc_hpt hS hv rfl).2) (Nat.zero_le _) (Nat.zero_le _)
        · replace c3 := zk_bj c3
          refine zr_aload C d_A_type_125 (n := 127) rfl rfl ?_
          refine zr_iload_n C d_A_type_127 (n := 128) rfl rfl ?_
          refine zr_callV1 C k_A_59 d_A_type_128 (nx := 131) rfl ho rfl ⟨by decide, by decide⟩ (Nat.le_of_ble_eq_true rfl) ⟨by decide, by decide⟩ (sp_O_isNamed l hO ht ?_)
          refine zr_if_eq C d_A_type_131 (n := 134) rfl (t := 136) (by decide) (fun c4 => ?_) (fun c4 => ?_)
          · replace c4 := zk_bz c4
            refine zr_aload C d_A_type_136 (n := 138) rfl rfl ?_
            refine zr_iload_n C d_A_type_138 (n := 139) rfl rfl ?_
            refine zr_iload_n C d_A_type_139 (n := 140) rfl rfl ?_
            refine zr_iload C d_A_type_140 (n := 142) rfl rfl ?_
            refine zr_iload C d_A_type_142 (n := 144) rfl rfl ?_
            refine zr_callV4 C k_A_62 d_A_type_144 (nx := 147) rfl ho rfl ⟨by decide, by decide⟩ (Nat.le_of_ble_eq_true rfl) ⟨by decide, by decide⟩ (sp_O_putType l hO ht ?_)
            refine zr_iconst C d_A_type_147 (n := 148) rfl (v := nI 0) (by decide) ?_
            exact zr_iret C d_A_type_148 rfl (by have e9 : zc_typeC V (nI v) (nI t) x2 (nI sp) x4 = true := (by simp [zc_typeC, qv, qt, qsp, k6, k1, k2, k3, k4, k5, c1, c2, c3, c4]); rw [e9] at hK; simp only [zc_W, zc_R, if_true, qv, qt] at hK; exact hK _ B E (zc_hpt hS hv rfl).1 (zc_hpt hS hv rfl).2) (Nat.zero_le _) (Nat.zero_le _)
          · replace c4 := zk_bn c4
            refine zr_iconst C d_A_type_134 (n := 135) rfl (v := -1) (by decide) ?_
            exact zr_iret C d_A_type_135 rfl (by have e9 : zc_typeC V (nI v) (nI t) x2 (nI sp) x4 = false := (by simp [zc_typeC, qv, qt, qsp, k6, k1, k2, k3, k4, k5, c1, c2, c3, c4]); rw [e9] at hK; exact hK h B E hS zc_fr_r) (Nat.zero_le _) (Nat.zero_le _)
    · replace c1 := zk_bz c1
      refine zr_iconst C d_A_type_103 (n := 104) rfl (v := -1) (by decide) ?_
      exact zr_iret C d_A_type_104 rfl (by have e9 : zc_typeC V (nI v) (nI t) x2 (nI sp) x4 = false := (by simp [zc_typeC, qv, qt, qsp, k6, k1, k2, k3, k4, k5, c1]); rw [e9] at hK; exact hK h B E hS zc_fr_r) (Nat.zero_le _) (Nat.zero_le _)
  have J70 : ∀ (v t sp : Nat) (hv : v < 2) (ht : t < 6) (hsp : sp < 7) (qv : (nI v).toNatClampNeg = v) (qt : (nI t).toNatClampNeg = t) (qsp : (nI sp).toNatClampNeg = sp) (k1 : zc_bl (nI v) (nI 2) = true) (k2 : zc_bl (nI t) (nI 6) = true) (k3 : zc_bl x2 (nI 16) = true) (k4 : zc_bl (nI sp) (nI 7) = true) (k5 : zc_bl x4 (nI 64) = true), (∀ (h' : zk_H) (B' E' : Nat → Int32), zc_at h' (zc_W (zc_typeC V (nI v) (nI t) x2 (nI sp) x4) V (zc_up V (nI v).toNatClampNeg (zc_pt (V (nI v).toNatClampNeg) (nI t).toNatClampNeg x2 (nI sp) x4))) uk ut un ua uc B' E' → zc_fr h h' → K (some (.int (zc_R (zc_typeC V (nI v) (nI t) x2 (nI sp) x4)))) h') → zk_V p l e rm_A_type s m ar below meth c 8 D dA b base (MQ below (zk_Q K D dA b base) ar s rm_A_type.cells rm_A_type.slots (fun q : Nat => base ≤ q)) 0 0 70 [some (.ref (0 + 1)), some (.int (nI v)), some (.int (nI t)), some (.int x2), some (.int (nI sp)), some (.int x4), some (.ref (9 * v + 1 + 1)), some (.int (zk_b (zb_nz x2 (nI 1))))] [] h := by
    intro v t sp hv ht hsp qv qt qsp k1 k2 k3 k4 k5 hK
    refine zr_iload C d_A_type_70 (n := 72) rfl rfl ?_
    refine zr_if_eq C d_A_type_72 (n := 75) rfl (t := 90) (by decide) (fun c1 => ?_) (fun c1 => ?_)
    · replace c1 := zk_bz c1
      exact J90 v t sp hv ht hsp qv qt qsp k1 k2 k3 k4 k5 (by simp [zc_ty1, c1]) hK
    · replace c1 := zk_bn c1
      refine zr_iload_n C d_A_type_75 (n := 76) rfl rfl ?_
      refine zr_iconst C d_A_type_76 (n := 77) rfl (v := nI 4) (by decide) ?_
      refine zr_iand C d_A_type_77 (n := 78) rfl ?_
      refine zr_if_ne C d_A_type_78 (n := 81) rfl (t := 88) (by decide) (fun c2 => ?_) (fun c2 => ?_)
      · replace c2 := zb_nzt c2
        refine zr_iconst C d_A_type_88 (n := 89) rfl (v := -1) (by decide) ?_
        exact zr_iret C d_A_type_89 rfl (by have e9 : zc_typeC V (nI v) (nI t) x2 (nI sp) x4 = false := (by simp [zc_typeC, zc_ty1, qv, qt, qsp, k1, k2, k3, k4, k5, c1, c2]); rw [e9] at hK; exact hK h B E hS zc_fr_r) (Nat.zero_le _) (Nat.zero_le _)
      · replace c2 := zb_nzf c2
        refine zr_iload C d_A_type_81 (n := 83) rfl rfl ?_
        refine zr_bipush C d_A_type_83 (n := 85) rfl (v := nI 6) (by decide) ?_
        refine zr_icmp_eq C d_A_type_85 (n := 88) rfl (t := 90) (by decide) (fun c3 => ?_) (fun c3 => ?_)
        · replace c3 := zk_eq (by omega) (by omega) c3
          exact J90 v t sp hv ht hsp qv qt qsp k1 k2 k3 k4 k5 (by simp [zc_ty1, c1, c2, c3]) hK
        · replace c3 := zk_ne (by omega) (by omega) c3
          refine zr_iconst C d_A_type_88 (n := 89) rfl (v := -1) (by decide) ?_
          exact zr_iret C d_A_type_89 rfl (by have e9 : zc_typeC V (nI v) (nI t) x2 (nI sp) x4 = false := (by simp [zc_typeC, zc_ty1, qv, qt, qsp, k1, k2, k3, k4, k5, c1, c2, c3]); rw [e9] at hK; exact hK h B E hS zc_fr_r) (Nat.zero_le _) (Nat.zero_le _)
  refine zr_iload_n C d_A_type_0 (n := 1) rfl rfl ?_
  refine zr_iconst C d_A_type_1 (n := 2) rfl (v := nI 2) (by decide) ?_
  refine zr_callS2 C k_A_40 d_A_type_2 (nx := 5) rfl ⟨by decide, by decide⟩ (Nat.le_of_ble_eq_true rfl) ⟨by decide, by decide⟩ (sp_A_isBelow l ?_)
  refine zr_if_eq C d_A_type_5 (n := 8) rfl (t := 26) (by decide) (fun c1 => ?_) (fun c1 => ?_)
  · replace c1 := zk_bz c1
    refine zr_iconst C d_A_type_26 (n := 27) rfl (v := -1) (by decide) ?_
    exact zr_iret C d_A_type_27 rfl (by have e9 : zc_typeC V x0 x1 x2 x3 x4 = false := (by simp [zc_typeC, c1]); rw [e9] at hK; exact hK h B E hS zc_fr_r) (Nat.zero_le _) (Nat.zero_le _)
  · replace c1 := zk_bn c1
    obtain ⟨v, hv, rfl, qv⟩ := zc_bl_n c1 (by decide)
    refine zr_iload_n C d_A_type_8 (n := 9) rfl rfl ?_
    refine zr_bipush C d_A_type_9 (n := 11) rfl (v := nI 6) (by decide) ?_
    refine zr_callS2 C k_A_40 d_A_type_11 (nx := 14) rfl ⟨by decide, by decide⟩ (Nat.le_of_ble_eq_true rfl) ⟨by decide, by decide⟩ (sp_A_isBelow l ?_)
    refine zr_if_eq C d_A_type_14 (n := 17) rfl (t := 26) (by decide) (fun c2 => ?_) (fun c2 => ?_)
    · replace c2 := zk_bz c2
      refine zr_iconst C d_A_type_26 (n := 27) rfl (v := -1) (by decide) ?_
      exact zr_iret C d_A_type_27 rfl (by have e9 : zc_typeC V (nI v) x1 x2 x3 x4 = false := (by simp [zc_typeC, c1, c2]); rw [e9] at hK; exact hK h B E hS zc_fr_r) (Nat.zero_le _) (Nat.zero_le _)
    · replace c2 := zk_bn c2
      obtain ⟨t, ht, rfl, qt⟩ := zc_bl_n c2 (by decide)
      refine zr_iload_n C d_A_type_17 (n := 18) rfl rfl ?_
      refine zr_bipush C d_A_type_18 (n := 20) rfl (v := nI 16) (by decide) ?_
      refine zr_callS2 C k_A_40 d_A_type_20 (nx := 23) rfl ⟨by decide, by decide⟩ (Nat.le_of_ble_eq_true rfl) ⟨by decide, by decide⟩ (sp_A_isBelow l ?_)
      refine zr_if_ne C d_A_type_23 (n := 26) rfl (t := 28) (by decide) (fun c3 => ?_) (fun c3 => ?_)
      · replace c3 := zk_bn c3
        refine zr_iload C d_A_type_28 (n := 30) rfl rfl ?_
        refine zr_bipush C d_A_type_30 (n := 32) rfl (v := nI 7) (by decide) ?_
        refine zr_callS2 C k_A_40 d_A_type_32 (nx := 35) rfl ⟨by decide, by decide⟩ (Nat.le_of_ble_eq_true rfl) ⟨by decide, by decide⟩ (sp_A_isBelow l ?_)
        refine zr_if_eq C d_A_type_35 (n := 38) rfl (t := 48) (by decide) (fun c4 => ?_) (fun c4 => ?_)
        · replace c4 := zk_bz c4
          refine zr_iconst C d_A_type_48 (n := 49) rfl (v := -1) (by decide) ?_
          exact zr_iret C d_A_type_49 rfl (by have e9 : zc_typeC V (nI v) (nI t) x2 x3 x4 = false := (by simp [zc_typeC, c1, c2, c3, c4]); rw [e9] at hK; exact hK h B E hS zc_fr_r) (Nat.zero_le _) (Nat.zero_le _)
        · replace c4 := zk_bn c4
          obtain ⟨sp, hsp, rfl, qsp⟩ := zc_bl_n c4 (by decide)
          refine zr_iload C d_A_type_38 (n := 40) rfl rfl ?_
          refine zr_bipush C d_A_type_40 (n := 42) rfl (v := nI 64) (by decide) ?_
          refine zr_callS2 C k_A_40 d_A_type_42 (nx := 45) rfl ⟨by decide, by decide⟩ (Nat.le_of_ble_eq_true rfl) ⟨by decide, by decide⟩ (sp_A_isBelow l ?_)
          refine zr_if_ne C d_A_type_45 (n := 48) rfl (t := 50) (by decide) (fun c5 => ?_) (fun c5 => ?_)
          · replace c5 := zk_bn c5
            refine zr_aload_n C d_A_type_50 (n := 51) rfl rfl ?_
            refine zr_iload_n C d_A_type_51 (n := 52) rfl rfl ?_
            refine zr_callV1 C k_A_44 d_A_type_52 (nx := 55) rfl hS.1 rfl ⟨by decide, by decide⟩ (Nat.le_of_ble_eq_true rfl) ⟨by decide, by decide⟩ (sp_A_offerOf l hS hv ?_)
            have hO := zc_o hS hv
            have ho := hO.1
            refine zr_astore C d_A_type_55 (n := 57) rfl (by decide) rfl ?_
            refine zr_iload_n C d_A_type_57 (n := 58) rfl rfl ?_
            refine zr_iconst C d_A_type_58 (n := 59) rfl (v := nI 1) (by decide) ?_
            refine zr_iand C d_A_type_59 (n := 60) rfl ?_
            refine zr_if_eq C d_A_type_60 (n := 63) rfl (t := 67) (by decide) (fun c6 => ?_) (fun c6 => ?_)
            · replace c6 := zb_nzf c6
              refine zr_iconst C d_A_type_67 (n := 68) rfl (v := nI 0) (by decide) ?_
              refine zr_toe (y := zk_b (zb_nz x2 (nI 1))) (by rw [c6]; rfl) ?_
              refine zr_istore C d_A_type_68 (n := 70) rfl (by decide) rfl ?_
              exact J70 v t sp hv ht hsp qv qt qsp c1 c2 c3 c4 c5 hK
            · replace c6 := zb_nzt c6
              refine zr_iconst C d_A_type_63 (n := 64) rfl (v := nI 1) (by decide) ?_
              refine zr_goto C d_A_type_64 (t := 68) (by decide) ?_
              refine zr_toe (y := zk_b (zb_nz x2 (nI 1))) (by rw [c6]; rfl) ?_
              refine zr_istore C d_A_type_68 (n := 70) rfl (by decide) rfl ?_
              exact J70 v t sp hv ht hsp qv qt qsp c1 c2 c3 c4 c5 hK
          · replace c5 := zk_bz c5
            refine zr_iconst C d_A_type_48 (n := 49) rfl (v := -1) (by decide) ?_
            exact zr_iret C d_A_type_49 rfl (by have e9 : zc_typeC V (nI v) (nI t) x2 (nI sp) x4 = false := (by simp [zc_typeC, c1, c2, c3, c4, c5]); rw [e9] at hK; exact hK h B E hS zc_fr_r) (Nat.zero_le _) (Nat.zero_le _)
      · replace c3 := zk_bz c3
        refine zr_iconst C d_A_type_26 (n := 27) rfl (v := -1) (by decide) ?_
        exact zr_iret C d_A_type_27 rfl (by have e9 : zc_typeC V (nI v) (nI t) x2 x3 x4 = false := (by simp [zc_typeC, c1, c2, c3]); rw [e9] at hK; exact hK h B E hS zc_fr_r) (Nat.zero_le _) (Nat.zero_le _)
abbrev rm_A_drop : Room := { frames := 2, cells := 0, slots := 0, locals := 46 }
set_option maxHeartbeats 4000000 in
set_option maxRecDepth 100000 in
/-- drop -/
theorem sp_A_drop (l : Launch) {h : zk_H} {V : Nat → zo_O} {uk ut un : Nat → Nat} {ua : Nat → Int32} {uc : Nat} {B E : Nat → Int32} (hS : zc_at h V uk ut un ua uc B E) {x0 x1 : Int32} {K : Option Value → zk_H → Prop} (hK : ∀ (h' : zk_H) (B' E' : Nat → Int32), zc_at h' (zc_W (zc_dropC V x0 x1) V (zc_up V x0.toNatClampNeg (zc_rt (V x0.toNatClampNeg) x1.toNatClampNeg))) uk ut un ua uc B' E' → zc_fr h h' → K (some (.int (zc_R (zc_dropC V x0 x1)))) h') : zk_S l y_A_drop b_A_drop 3 (some .int) rm_A_drop [.ref (0 + 1), .int x0, .int x1] h K := by
  refine zk_S_of R_A "drop" (by decide) rfl rfl [some (.ref (0 + 1)), some (.int x0), some (.int x1)] 0 rfl (Nat.le_of_ble_eq_true rfl) (fun p e s m ar below meth c D dA b base C => ?_)
  refine zr_aload_n C d_A_drop_0 (n := 1) rfl rfl ?_
  refine zr_iload_n C d_A_drop_1 (n := 2) rfl rfl ?_
  refine zr_iload_n C d_A_drop_2 (n := 3) rfl rfl ?_
  refine zr_callV2 C k_A_66 d_A_drop_3 (nx := 6) rfl hS.1 rfl ⟨by decide, by decide⟩ (Nat.le_of_ble_eq_true rfl) ⟨by decide, by decide⟩ (sp_A_isTypeThere l hS ?_)
  refine zr_if_eq C d_A_drop_6 (n := 9) rfl (t := 21) (by decide) (fun c1 => ?_) (fun c1 => ?_)
  · replace c1 := zk_bz c1
    refine zr_iconst C d_A_drop_21 (n := 22) rfl (v := -1) (by decide) ?_
    exact zr_iret C d_A_drop_22 rfl (by have e9 : zc_dropC V x0 x1 = false := (by simp [zc_dropC, c1]); rw [e9] at hK; exact hK h B E hS zc_fr_r) (Nat.zero_le _) (Nat.zero_le _)
  · replace c1 := zk_bn c1
    obtain ⟨v, t, hv, ht, rfl, rfl, qv, qt⟩ := zc_tt_n c1
    refine zr_aload_n C d_A_drop_9 (n := 10) rfl rfl ?_
    refine zr_iload_n C d_A_drop_10 (n := 11) rfl rfl ?_
    refine zr_callV1 C k_A_44 d_A_drop_11 (nx := 14) rfl hS.1 rfl ⟨by decide, by decide⟩ (Nat.le_of_ble_eq_true rfl) ⟨by decide, by decide⟩ (sp_A_offerOf l hS hv ?_)
    have hO := zc_o hS hv
    have ho := hO.1
    refine zr_iload_n C d_A_drop_14 (n := 15) rfl rfl ?_
    refine zr_callV1 C k_A_59 d_A_drop_15 (nx := 18) rfl ho rfl ⟨by decide, by decide⟩ (Nat.le_of_ble_eq_true rfl) ⟨by decide, by decide⟩ (sp_O_isNamed l hO ht ?_)
    refine zr_if_eq C d_A_drop_18 (n := 21) rfl (t := 23) (by decide) (fun c2 => ?_) (fun c2 => ?_)
    · replace c2 := zk_bz c2
      refine zr_aload_n C d_A_drop_23 (n := 24) rfl rfl ?_
      refine zr_iload_n C d_A_drop_24 (n := 25) rfl rfl ?_
      refine zr_callV1 C k_A_44 d_A_drop_25 (nx := 28) rfl hS.1 rfl ⟨by decide, by decide⟩ (Nat.le_of_ble_eq_true rfl) ⟨by decide, by decide⟩ (sp_A_offerOf l hS hv ?_)
      refine zr_iload_n C d_A_drop_28 (n := 29) rfl rfl ?_
      refine zr_callV1 C k_A_69 d_A_drop_29 (nx := 32) rfl ho rfl ⟨by decide, by decide⟩ (Nat.le_of_ble_eq_true rfl) ⟨by decide, by decide⟩ (sp_O_removeType l hO ht ?_)
      refine zr_iconst C d_A_drop_32 (n := 33) rfl (v := nI 0) (by decide) ?_
      exact zr_iret C d_A_drop_33 rfl (by have e9 : zc_dropC V (nI v) (nI t) = true := (by simp [zc_dropC, qv, qt, c1, c2]); rw [e9] at hK; simp only [zc_W, zc_R, if_true, qv, qt] at hK; exact hK _ B E (zc_hrt hS hv rfl).1 (zc_hrt hS hv rfl).2) (Nat.zero_le _) (Nat.zero_le _)
    · replace c2 := zk_bn c2
      refine zr_iconst C d_A_drop_21 (n := 22) rfl (v := -1) (by decide) ?_
      exact zr_iret C d_A_drop_22 rfl (by have e9 : zc_dropC V (nI v) (nI t) = false := (by simp [zc_dropC, qv, qt, c1, c2]); rw [e9] at hK; exact hK h B E hS zc_fr_r) (Nat.zero_le _) (Nat.zero_le _)
abbrev rm_A_field : Room := { frames := 2, cells := 0, slots := 0, locals := 42 }
set_option maxHeartbeats 4000000 in
set_option maxRecDepth 100000 in
/-- field -/
theorem sp_A_field (l : Launch) {h : zk_H} {V : Nat → zo_O} {uk ut un : Nat → Nat} {ua : Nat → Int32} {uc : Nat} {B E : Nat → Int32} (hS : zc_at h V uk ut un ua uc B E) {x0 x1 x2 x3 : Int32} {K : Option Value → zk_H → Prop} (hK : ∀ (h' : zk_H) (B' E' : Nat → Int32), zc_at h' (zc_W (zc_fieldC V x0 x1 x2) V (zc_up V (x0.toNatClampNeg / 12) (zc_pf (V (x0.toNatClampNeg / 12)) (x0.toNatClampNeg / 2 % 6 * 4 + x1.toNatClampNeg) (nI (x0.toNatClampNeg % 2)) x2 x3))) uk ut un ua uc B' E' → zc_fr h h' → K (some (.int (zc_R (zc_fieldC V x0 x1 x2)))) h') : zk_S l y_A_field b_A_field 7 (some .int) rm_A_field [.ref (0 + 1), .int x0, .int x1, .int x2, .int x3] h K := by
  refine zk_S_of R_A "field" (by decide) rfl rfl [some (.ref (0 + 1)), some (.int x0), some (.int x1), some (.int x2), some (.int x3), none, none] 2 rfl (Nat.le_of_ble_eq_true rfl) (fun p e s m ar below meth c D dA b base C => ?_)
  refine zr_iload_n C d_A_field_0 (n := 1) rfl rfl ?_
  refine zr_bipush C d_A_field_1 (n := 3) rfl (v := nI 24) (by decide) ?_
  refine zr_callS2 C k_A_40 d_A_field_3 (nx := 6) rfl ⟨by decide, by decide⟩ (Nat.le_of_ble_eq_true rfl) ⟨by decide, by decide⟩ (sp_A_isBelow l ?_)
  refine zr_if_eq C d_A_field_6 (n := 9) rfl (t := 24) (by decide) (fun c1 => ?_) (fun c1 => ?_)
  · replace c1 := zk_bz c1
    refine zr_iconst C d_A_field_24 (n := 25) rfl (v := -1) (by decide) ?_
    exact zr_iret C d_A_field_25 rfl (by have e9 : zc_fieldC V x0 x1 x2 = false := (by simp [zc_fieldC, c1]); rw [e9] at hK; exact hK h B E hS zc_fr_r) (Nat.zero_le _) (Nat.zero_le _)
  · replace c1 := zk_bn c1
    obtain ⟨p0, hp0, rfl, qp0⟩ := zc_bl_n c1 (by decide)
    refine zr_iload_n C d_A_field_9 (n := 10) rfl rfl ?_
    refine zr_iconst C d_A_field_10 (n := 11) rfl (v := nI 4) (by decide) ?_
    refine zr_callS2 C k_A_40 d_A_field_11 (nx := 14) rfl ⟨by decide, by decide⟩ (Nat.le_of_ble_eq_true rfl) ⟨by decide, by decide⟩ (sp_A_isBelow l ?_)
    refine zr_if_eq C d_A_field_14 (n := 17) rfl (t := 24) (by decide) (fun c2 => ?_) (fun c2 => ?_)
    · replace c2 := zk_bz c2
      refine zr_iconst C d_A_field_24 (n := 25) rfl (v := -1) (by decide) ?_
      exact zr_iret C d_A_field_25 rfl (by have e9 : zc_fieldC V (nI p0) x1 x2 = false := (by simp [zc_fieldC, qp0, c1, c2]); rw [e9] at hK; exact hK h B E hS zc_fr_r) (Nat.zero_le _) (Nat.zero_le _)
    · replace c2 := zk_bn c2
      obtain ⟨n0, hn0, rfl, qn0⟩ := zc_bl_n c2 (by decide)
      refine zr_iload_n C d_A_field_17 (n := 18) rfl rfl ?_
      refine zr_callS1 C k_A_73 d_A_field_18 (nx := 21) rfl ⟨by decide, by decide⟩ (Nat.le_of_ble_eq_true rfl) ⟨by decide, by decide⟩ (sp_A_areFieldFlags l ?_)
      refine zr_if_ne C d_A_field_21 (n := 24) rfl (t := 26) (by decide) (fun c3 => ?_) (fun c3 => ?_)
      · replace c3 := zk_bn c3
        refine zr_aload_n C d_A_field_26 (n := 27) rfl rfl ?_
        refine zr_iload_n C d_A_field_27 (n := 28) rfl rfl ?_
        refine zr_bipush C d_A_field_28 (n := 30) rfl (v := nI 12) (by decide) ?_
        refine zr_idiv C d_A_field_30 (n := 31) rfl (by decide) ?_
        refine zr_toe (y := nI (p0 / 12)) (pk_div (by omega) (by decide) (by decide)) ?_
        refine zr_callV1 C k_A_44 d_A_field_31 (nx := 34) rfl hS.1 rfl ⟨by decide, by decide⟩ (Nat.le_of_ble_eq_true rfl) ⟨by decide, by decide⟩ (sp_A_offerOf l hS (v := p0 / 12) (by omega) ?_)
        have hO := zc_o hS (show p0 / 12 < 2 by omega)
        have ho := hO.1
        refine zr_astore C d_A_field_34 (n := 36) rfl (by decide) rfl ?_
        refine zr_iload_n C d_A_field_36 (n := 37) rfl rfl ?_
        refine zr_iconst C d_A_field_37 (n := 38) rfl (v := nI 2) (by decide) ?_
        refine zr_idiv C d_A_field_38 (n := 39) rfl (by decide) ?_
        refine zr_toe (y := nI (p0 / 2)) (pk_div (by omega) (by decide) (by decide)) ?_
        refine zr_bipush C d_A_field_39 (n := 41) rfl (v := nI 6) (by decide) ?_
        refine zr_irem C d_A_field_41 (n := 42) rfl (by decide) ?_
        refine zr_toe (y := nI (p0 / 2 % 6)) (pk_rem (by omega) (by decide) (by decide)) ?_
        refine zr_istore C d_A_field_42 (n := 44) rfl (by decide) rfl ?_
        refine zr_aload C d_A_field_44 (n := 46) rfl rfl ?_
        refine zr_iload C d_A_field_46 (n := 48) rfl rfl ?_
        refine zr_callV1 C k_A_52 d_A_field_48 (nx := 51) rfl ho rfl ⟨by decide, by decide⟩ (Nat.le_of_ble_eq_true rfl) ⟨by decide, by decide⟩ (sp_O_isThere l hO (by omega) ?_)
        refine zr_if_ne C d_A_field_51 (n := 54) rfl (t := 56) (by decide) (fun c4 => ?_) (fun c4 => ?_)
        · replace c4 := zk_bn c4
          refine zr_aload C d_A_field_56 (n := 58) rfl rfl ?_
          refine zr_iload C d_A_field_58 (n := 60) rfl rfl ?_
          refine zr_iconst C d_A_field_60 (n := 61) rfl (v := nI 4) (by decide) ?_
          refine zr_imul C d_A_field_61 (n := 62) rfl ?_
          refine zr_iload_n C d_A_field_62 (n := 63) rfl rfl ?_
          refine zr_iadd C d_A_field_63 (n := 64) rfl ?_
          refine zr_toe (y := nI (p0 / 2 % 6 * 4 + n0)) (by simp only [pk_mul, nI_add]) ?_
          refine zr_iload_n C d_A_field_64 (n := 65) rfl rfl ?_
          refine zr_iconst C d_A_field_65 (n := 66) rfl (v := nI 2) (by decide) ?_
          refine zr_irem C d_A_field_66 (n := 67) rfl (by decide) ?_
          refine zr_toe (y := nI (p0 % 2)) (pk_rem (by omega) (by decide) (by decide)) ?_
          refine zr_iload_n C d_A_field_67 (n := 68) rfl rfl ?_
          refine zr_iload C d_A_field_68 (n := 70) rfl rfl ?_
          refine zr_callV4 C k_A_76 d_A_field_70 (nx := 73) rfl ho rfl ⟨by decide, by decide⟩ (Nat.le_of_ble_eq_true rfl) ⟨by decide, by decide⟩ (sp_O_putField l hO (by omega) ?_)
          refine zr_iconst C d_A_field_73 (n := 74) rfl (v := nI 0) (by decide) ?_
          exact zr_iret C d_A_field_74 rfl (by have e9 : zc_fieldC V (nI p0) (nI n0) x2 = true := (by simp [zc_fieldC, qp0, qn0, c1, c2, c3, c4]); rw [e9] at hK; simp only [zc_W, zc_R, if_true, qp0, qn0] at hK; exact hK _ B E (zc_hpf hS (show p0 / 12 < 2 by omega) rfl).1 (zc_hpf hS (show p0 / 12 < 2 by omega) rfl).2) (Nat.zero_le _) (Nat.zero_le _)
        · replace c4 := zk_bz c4
          refine zr_iconst C d_A_field_54 (n := 55) rfl (v := -1) (by decide) ?_
          exact zr_iret C d_A_field_55 rfl (by have e9 : zc_fieldC V (nI p0) (nI n0) x2 = false := (by simp [zc_fieldC, qp0, c1, c2, c3, c4]); rw [e9] at hK; exact hK h B E hS zc_fr_r) (Nat.zero_le _) (Nat.zero_le _)
      · replace c3 := zk_bz c3
        refine zr_iconst C d_A_field_24 (n := 25) rfl (v := -1) (by decide) ?_
        exact zr_iret C d_A_field_25 rfl (by have e9 : zc_fieldC V (nI p0) (nI n0) x2 = false := (by simp [zc_fieldC, qp0, c1, c2, c3]); rw [e9] at hK; exact hK h B E hS zc_fr_r) (Nat.zero_le _) (Nat.zero_le _)
abbrev rm_A_method : Room := { frames := 2, cells := 0, slots := 0, locals := 41 }
set_option maxHeartbeats 4000000 in
set_option maxRecDepth 100000 in
/-- method -/
theorem sp_A_method (l : Launch) {h : zk_H} {V : Nat → zo_O} {uk ut un : Nat → Nat} {ua : Nat → Int32} {uc : Nat} {B E : Nat → Int32} (hS : zc_at h V uk ut un ua uc B E) {x0 x1 x2 x3 : Int32} {K : Option Value → zk_H → Prop} (hK : ∀ (h' : zk_H) (B' E' : Nat → Int32), zc_at h' (zc_W (zc_methC V x0 x1 x2 x3) V (zc_up V (x0.toNatClampNeg / 6) (zc_pm (V (x0.toNatClampNeg / 6)) (x0.toNatClampNeg % 6 * 12 + x1.toNatClampNeg * 4 + x2.toNatClampNeg / 4) (nI (x2.toNatClampNeg % 4)) x3))) uk ut un ua uc B' E' → zc_fr h h' → K (some (.int (zc_R (zc_methC V x0 x1 x2 x3)))) h') : zk_S l y_A_method b_A_method 7 (some .int) rm_A_method [.ref (0 + 1), .int x0, .int x1, .int x2, .int x3] h K := by
  refine zk_S_of R_A "method" (by decide) rfl rfl [some (.ref (0 + 1)), some (.int x0), some (.int x1), some (.int x2), some (.int x3), none, none] 2 rfl (Nat.le_of_ble_eq_true rfl) (fun p e s m ar below meth c D dA b base C => ?_)
  refine zr_iload_n C d_A_method_0 (n := 1) rfl rfl ?_
  refine zr_bipush C d_A_method_1 (n := 3) rfl (v := nI 12) (by decide) ?_
  refine zr_callS2 C k_A_40 d_A_method_3 (nx := 6) rfl ⟨by decide, by decide⟩ (Nat.le_of_ble_eq_true rfl) ⟨by decide, by decide⟩ (sp_A_isBelow l ?_)
  refine zr_if_eq C d_A_method_6 (n := 9) rfl (t := 17) (by decide) (fun c1 => ?_) (fun c1 => ?_)
  · replace c1 := zk_bz c1
    refine zr_iconst C d_A_method_17 (n := 18) rfl (v := -1) (by decide) ?_
    exact zr_iret C d_A_method_18 rfl (by have e9 : zc_methC V x0 x1 x2 x3 = false := (by simp [zc_methC, c1]); rw [e9] at hK; exact hK h B E hS zc_fr_r) (Nat.zero_le _) (Nat.zero_le _)
  · replace c1 := zk_bn c1
    obtain ⟨p0, hp0, rfl, qp0⟩ := zc_bl_n c1 (by decide)
    refine zr_iload_n C d_A_method_9 (n := 10) rfl rfl ?_
    refine zr_iconst C d_A_method_10 (n := 11) rfl (v := nI 3) (by decide) ?_
    refine zr_callS2 C k_A_40 d_A_method_11 (nx := 14) rfl ⟨by decide, by decide⟩ (Nat.le_of_ble_eq_true rfl) ⟨by decide, by decide⟩ (sp_A_isBelow l ?_)
    refine zr_if_ne C d_A_method_14 (n := 17) rfl (t := 19) (by decide) (fun c2 => ?_) (fun c2 => ?_)
    · replace c2 := zk_bn c2
      obtain ⟨n0, hn0, rfl, qn0⟩ := zc_bl_n c2 (by decide)
      refine zr_iload_n C d_A_method_19 (n := 20) rfl rfl ?_
      refine zr_bipush C d_A_method_20 (n := 22) rfl (v := nI 16) (by decide) ?_
      refine zr_callS2 C k_A_40 d_A_method_22 (nx := 25) rfl ⟨by decide, by decide⟩ (Nat.le_of_ble_eq_true rfl) ⟨by decide, by decide⟩ (sp_A_isBelow l ?_)
      refine zr_if_eq C d_A_method_25 (n := 28) rfl (t := 36) (by decide) (fun c3 => ?_) (fun c3 => ?_)
      · replace c3 := zk_bz c3
        refine zr_iconst C d_A_method_36 (n := 37) rfl (v := -1) (by decide) ?_
        exact zr_iret C d_A_method_37 rfl (by have e9 : zc_methC V (nI p0) (nI n0) x2 x3 = false := (by simp [zc_methC, qp0, c1, c2, c3]); rw [e9] at hK; exact hK h B E hS zc_fr_r) (Nat.zero_le _) (Nat.zero_le _)
      · replace c3 := zk_bn c3
        obtain ⟨g0, hg0, rfl, qg0⟩ := zc_bl_n c3 (by decide)
        refine zr_iload C d_A_method_28 (n := 30) rfl rfl ?_
        refine zr_callS1 C k_A_79 d_A_method_30 (nx := 33) rfl ⟨by decide, by decide⟩ (Nat.le_of_ble_eq_true rfl) ⟨by decide, by decide⟩ (sp_A_areMethodFlags l ?_)
        refine zr_if_ne C d_A_method_33 (n := 36) rfl (t := 38) (by decide) (fun c4 => ?_) (fun c4 => ?_)
        · replace c4 := zk_bn c4
          refine zr_aload_n C d_A_method_38 (n := 39) rfl rfl ?_
          refine zr_iload_n C d_A_method_39 (n := 40) rfl rfl ?_
          refine zr_bipush C d_A_method_40 (n := 42) rfl (v := nI 6) (by decide) ?_
          refine zr_idiv C d_A_method_42 (n := 43) rfl (by decide) ?_
          refine zr_toe (y := nI (p0 / 6)) (pk_div (by omega) (by decide) (by decide)) ?_
          refine zr_callV1 C k_A_44 d_A_method_43 (nx := 46) rfl hS.1 rfl ⟨by decide, by decide⟩ (Nat.le_of_ble_eq_true rfl) ⟨by decide, by decide⟩ (sp_A_offerOf l hS (v := p0 / 6) (by omega) ?_)
          have hO := zc_o hS (show p0 / 6 < 2 by omega)
          have ho := hO.1
          refine zr_astore C d_A_method_46 (n := 48) rfl (by decide) rfl ?_
          refine zr_iload_n C d_A_method_48 (n := 49) rfl rfl ?_
          refine zr_bipush C d_A_method_49 (n := 51) rfl (v := nI 6) (by decide) ?_
          refine zr_irem C d_A_method_51 (n := 52) rfl (by decide) ?_
          refine zr_toe (y := nI (p0 % 6)) (pk_rem (by omega) (by decide) (by decide)) ?_
          refine zr_istore C d_A_method_52 (n := 54) rfl (by decide) rfl ?_
          refine zr_aload C d_A_method_54 (n := 56) rfl rfl ?_
          refine zr_iload C d_A_method_56 (n := 58) rfl rfl ?_
          refine zr_callV1 C k_A_52 d_A_method_58 (nx := 61) rfl ho rfl ⟨by decide, by decide⟩ (Nat.le_of_ble_eq_true rfl) ⟨by decide, by decide⟩ (sp_O_isThere l hO (by omega) ?_)
          refine zr_if_ne C d_A_method_61 (n := 64) rfl (t := 66) (by decide) (fun c5 => ?_) (fun c5 => ?_)
          · replace c5 := zk_bn c5
            refine zr_aload C d_A_method_66 (n := 68) rfl rfl ?_
            refine zr_iload C d_A_method_68 (n := 70) rfl rfl ?_
            refine zr_iload_n C d_A_method_70 (n := 71) rfl rfl ?_
            refine zr_iload_n C d_A_method_71 (n := 72) rfl rfl ?_
            refine zr_iconst C d_A_method_72 (n := 73) rfl (v := nI 4) (by decide) ?_
            refine zr_idiv C d_A_method_73 (n := 74) rfl (by decide) ?_
            refine zr_toe (y := nI (g0 / 4)) (pk_div (by omega) (by decide) (by decide)) ?_
            refine zr_callS3 C k_A_82 d_A_method_74 (nx := 77) rfl ⟨by decide, by decide⟩ (Nat.le_of_ble_eq_true rfl) ⟨by decide, by decide⟩ (sp_A_methodPlace l ?_)
            refine zr_iload_n C d_A_method_77 (n := 78) rfl rfl ?_
            refine zr_iconst C d_A_method_78 (n := 79) rfl (v := nI 4) (by decide) ?_
            refine zr_irem C d_A_method_79 (n := 80) rfl (by decide) ?_
            refine zr_toe (y := nI (g0 % 4)) (pk_rem (by omega) (by decide) (by decide)) ?_
            refine zr_iload C d_A_method_80 (n := 82) rfl rfl ?_
            refine zr_callV3 C k_A_86 d_A_method_82 (nx := 85) rfl ho rfl ⟨by decide, by decide⟩ (Nat.le_of_ble_eq_true rfl) ⟨by decide, by decide⟩ (sp_O_putMethod l hO (by omega) ?_)
            refine zr_iconst C d_A_method_85 (n := 86) rfl (v := nI 0) (by decide) ?_
            exact zr_iret C d_A_method_86 rfl (by have e9 : zc_methC V (nI p0) (nI n0) (nI g0) x3 = true := (by simp [zc_methC, qp0, qn0, qg0, c1, c2, c3, c4, c5]); rw [e9] at hK; simp only [zc_W, zc_R, if_true, qp0, qn0, qg0] at hK; exact hK _ B E (zc_hpm hS (show p0 / 6 < 2 by omega) rfl).1 (zc_hpm hS (show p0 / 6 < 2 by omega) rfl).2) (Nat.zero_le _) (Nat.zero_le _)
          · replace c5 := zk_bz c5
            refine zr_iconst C d_A_method_64 (n := 65) rfl (v := -1) (by decide) ?_
            exact zr_iret C d_A_method_65 rfl (by have e9 : zc_methC V (nI p0) (nI n0) (nI g0) x3 = false := (by simp [zc_methC, qp0, c1, c2, c3, c4, c5]); rw [e9] at hK; exact hK h B E hS zc_fr_r) (Nat.zero_le _) (Nat.zero_le _)
        · replace c4 := zk_bz c4
          refine zr_iconst C d_A_method_36 (n := 37) rfl (v := -1) (by decide) ?_
          exact zr_iret C d_A_method_37 rfl (by have e9 : zc_methC V (nI p0) (nI n0) (nI g0) x3 = false := (by simp [zc_methC, qp0, c1, c2, c3, c4]); rw [e9] at hK; exact hK h B E hS zc_fr_r) (Nat.zero_le _) (Nat.zero_le _)
    · replace c2 := zk_bz c2
      refine zr_iconst C d_A_method_17 (n := 18) rfl (v := -1) (by decide) ?_
      exact zr_iret C d_A_method_18 rfl (by have e9 : zc_methC V (nI p0) x1 x2 x3 = false := (by simp [zc_methC, qp0, c1, c2]); rw [e9] at hK; exact hK h B E hS zc_fr_r) (Nat.zero_le _) (Nat.zero_le _)
theorem zc_rf_id {h : zk_H} {V : Nat → zo_O} {uk ut un : Nat → Nat} {ua : Nat → Int32} {uc : Nat} {B E : Nat → Int32} {v o j : Nat} (hS : zc_at h V uk ut un ua uc B E) (hv : v < 2) (e : 9 * v + 1 = o) (hj : zo_fth (V v) j = false) : h.set (o + 4) (.inl (0, 24, .inl (upd (V v 3) j (-1)))) = h := by
  have hO := zc_o hS hv
  subst e
  have h3 : V v 3 j = -1 := Classical.byContradiction fun q => by
    rw [zo_fth, decide_eq_true q] at hj
    cases hj
  have hu : upd (V v 3) j (-1) = V v 3 := by
    funext q
    by_cases hq : q = j
    · subst hq; rw [pk_us, h3]
    · rw [pk_un hq]
  rw [hu]
  exact zk_ss hO.2.2.2.2.1
theorem zc_rm_id {h : zk_H} {V : Nat → zo_O} {uk ut un : Nat → Nat} {ua : Nat → Int32} {uc : Nat} {B E : Nat → Int32} {v o j : Nat} (hS : zc_at h V uk ut un ua uc B E) (hv : v < 2) (e : 9 * v + 1 = o) (hj : zo_mth (V v) j = false) : h.set (o + 7) (.inl (0, 72, .inl (upd (V v 6) j (-1)))) = h := by
  have hO := zc_o hS hv
  subst e
  have h3 : V v 6 j = -1 := Classical.byContradiction fun q => by
    rw [zo_mth, decide_eq_true q] at hj
    cases hj
  have hu : upd (V v 6) j (-1) = V v 6 := by
    funext q
    by_cases hq : q = j
    · subst hq; rw [pk_us, h3]
    · rw [pk_un hq]
  rw [hu]
  exact zk_ss hO.2.2.2.2.2.2.2.1
abbrev rm_A_cut : Room := { frames := 2, cells := 0, slots := 0, locals := 43 }
set_option maxHeartbeats 4000000 in
set_option maxRecDepth 100000 in
/-- cut -/
theorem sp_A_cut (l : Launch) {h : zk_H} {V : Nat → zo_O} {uk ut un : Nat → Nat} {ua : Nat → Int32} {uc : Nat} {B E : Nat → Int32} (hS : zc_at h V uk ut un ua uc B E) {x0 x1 x2 x3 : Int32} {K : Option Value → zk_H → Prop} (hK : ∀ (h' : zk_H) (B' E' : Nat → Int32), zc_at h' (zc_W (zc_cutF V x0 x1 x2 x3) (zc_W (zc_cutM V x0 x1 x2 x3) V (zc_up V x0.toNatClampNeg (zc_rm (V x0.toNatClampNeg) (x1.toNatClampNeg * 12 + x2.toNatClampNeg * 4 + x3.toNatClampNeg)))) (zc_up V x0.toNatClampNeg (zc_rf (V x0.toNatClampNeg) (x1.toNatClampNeg * 4 + x2.toNatClampNeg)))) uk ut un ua uc B' E' → zc_fr h h' → K (some (.int (zc_R (zc_cutF V x0 x1 x2 x3 || zc_cutM V x0 x1 x2 x3)))) h') : zk_S l y_A_cut b_A_cut 5 (some .int) rm_A_cut [.ref (0 + 1), .int x0, .int x1, .int x2, .int x3] h K := by
  refine zk_S_of R_A "cut" (by decide) rfl rfl [some (.ref (0 + 1)), some (.int x0), some (.int x1), some (.int x2), some (.int x3)] 0 rfl (Nat.le_of_ble_eq_true rfl) (fun p e s m ar below meth c D dA b base C => ?_)
  refine zr_aload_n C d_A_cut_0 (n := 1) rfl rfl ?_
  refine zr_iload_n C d_A_cut_1 (n := 2) rfl rfl ?_
  refine zr_iload_n C d_A_cut_2 (n := 3) rfl rfl ?_
  refine zr_callV2 C k_A_66 d_A_cut_3 (nx := 6) rfl hS.1 rfl ⟨by decide, by decide⟩ (Nat.le_of_ble_eq_true rfl) ⟨by decide, by decide⟩ (sp_A_isTypeThere l hS ?_)
  refine zr_if_ne C d_A_cut_6 (n := 9) rfl (t := 11) (by decide) (fun c1 => ?_) (fun c1 => ?_)
  · replace c1 := zk_bn c1
    obtain ⟨v, t, hv, ht, rfl, rfl, qv, qt⟩ := zc_tt_n c1
    refine zr_iload C d_A_cut_11 (n := 13) rfl rfl ?_
    refine zr_iconst C d_A_cut_13 (n := 14) rfl (v := nI 4) (by decide) ?_
    refine zr_icmp_ne C d_A_cut_14 (n := 17) rfl (t := 49) (by decide) (fun c2 => ?_) (fun c2 => ?_)
    · refine zr_iload_n C d_A_cut_49 (n := 50) rfl rfl ?_
      refine zr_iconst C d_A_cut_50 (n := 51) rfl (v := nI 3) (by decide) ?_
      refine zr_callS2 C k_A_40 d_A_cut_51 (nx := 54) rfl ⟨by decide, by decide⟩ (Nat.le_of_ble_eq_true rfl) ⟨by decide, by decide⟩ (sp_A_isBelow l ?_)
      refine zr_if_eq C d_A_cut_54 (n := 57) rfl (t := 66) (by decide) (fun c3 => ?_) (fun c3 => ?_)
      · replace c3 := zk_bz c3
        refine zr_iconst C d_A_cut_66 (n := 67) rfl (v := -1) (by decide) ?_
        exact zr_iret C d_A_cut_67 rfl (by have e8 : zc_cutF V (nI v) (nI t) x2 x3 = false := (by simp [zc_cutF, zc_cutM, qv, qt, c1, c2, c3]); have e9 : zc_cutM V (nI v) (nI t) x2 x3 = false := (by simp [zc_cutF, zc_cutM, qv, qt, c1, c2, c3]); rw [e8, e9] at hK; simp only [zc_W, zc_R, Bool.or_false, Bool.or_true, Bool.false_or, Bool.true_or, if_true, if_false, reduceCtorEq, qv, qt] at hK; exact hK h B E hS zc_fr_r) (Nat.zero_le _) (Nat.zero_le _)
      · replace c3 := zk_bn c3
        obtain ⟨n0, hn0, rfl, qn0⟩ := zc_bl_n c3 (by decide)
        refine zr_iload C d_A_cut_57 (n := 59) rfl rfl ?_
        refine zr_iconst C d_A_cut_59 (n := 60) rfl (v := nI 4) (by decide) ?_
        refine zr_callS2 C k_A_40 d_A_cut_60 (nx := 63) rfl ⟨by decide, by decide⟩ (Nat.le_of_ble_eq_true rfl) ⟨by decide, by decide⟩ (sp_A_isBelow l ?_)
        refine zr_if_ne C d_A_cut_63 (n := 66) rfl (t := 68) (by decide) (fun c4 => ?_) (fun c4 => ?_)
        · replace c4 := zk_bn c4
          obtain ⟨r0, hr0, rfl, qr0⟩ := zc_bl_n c4 (by decide)
          refine zr_aload_n C d_A_cut_68 (n := 69) rfl rfl ?_
          refine zr_iload_n C d_A_cut_69 (n := 70) rfl rfl ?_
          refine zr_callV1 C k_A_44 d_A_cut_70 (nx := 73) rfl hS.1 rfl ⟨by decide, by decide⟩ (Nat.le_of_ble_eq_true rfl) ⟨by decide, by decide⟩ (sp_A_offerOf l hS hv ?_)
          have hO := zc_o hS hv
          have ho := hO.1
          refine zr_iload_n C d_A_cut_73 (n := 74) rfl rfl ?_
          refine zr_iload_n C d_A_cut_74 (n := 75) rfl rfl ?_
          refine zr_iload C d_A_cut_75 (n := 77) rfl rfl ?_
          refine zr_callS3 C k_A_82 d_A_cut_77 (nx := 80) rfl ⟨by decide, by decide⟩ (Nat.le_of_ble_eq_true rfl) ⟨by decide, by decide⟩ (sp_A_methodPlace l ?_)
          refine zr_callV1 C k_A_93 d_A_cut_80 (nx := 83) rfl ho rfl ⟨by decide, by decide⟩ (Nat.le_of_ble_eq_true rfl) ⟨by decide, by decide⟩ (sp_O_removeMethod l hO (by omega) ?_)
          refine zr_if_eq C d_A_cut_83 (n := 86) rfl (t := 90) (by decide) (fun c5 => ?_) (fun c5 => ?_)
          · replace c5 := zk_bz c5
            refine zr_iconst C d_A_cut_90 (n := 91) rfl (v := -1) (by decide) ?_
            exact zr_iret C d_A_cut_91 rfl (by have e8 : zc_cutF V (nI v) (nI t) (nI n0) (nI r0) = false := (by simp [zc_cutF, zc_cutM, qv, qt, qn0, qr0, c1, c2, c3, c4, c5]); have e9 : zc_cutM V (nI v) (nI t) (nI n0) (nI r0) = false := (by simp [zc_cutF, zc_cutM, qv, qt, qn0, qr0, c1, c2, c3, c4, c5]); rw [e8, e9] at hK; simp only [zc_W, zc_R, Bool.or_false, Bool.or_true, Bool.false_or, Bool.true_or, if_true, if_false, reduceCtorEq, qv, qt, qn0, qr0] at hK; rw [zc_rm_id hS hv rfl (by assumption)]; exact hK h B E hS zc_fr_r) (Nat.zero_le _) (Nat.zero_le _)
          · replace c5 := zk_bn c5
            refine zr_iconst C d_A_cut_86 (n := 87) rfl (v := nI 0) (by decide) ?_
            refine zr_goto C d_A_cut_87 (t := 91) (by decide) ?_
            exact zr_iret C d_A_cut_91 rfl (by have e8 : zc_cutF V (nI v) (nI t) (nI n0) (nI r0) = false := (by simp [zc_cutF, zc_cutM, qv, qt, qn0, qr0, c1, c2, c3, c4, c5]); have e9 : zc_cutM V (nI v) (nI t) (nI n0) (nI r0) = true := (by simp [zc_cutF, zc_cutM, qv, qt, qn0, qr0, c1, c2, c3, c4, c5]); rw [e8, e9] at hK; simp only [zc_W, zc_R, Bool.or_false, Bool.or_true, Bool.false_or, Bool.true_or, if_true, if_false, reduceCtorEq, qv, qt, qn0, qr0] at hK; exact hK _ B E (zc_hrm hS hv rfl).1 (zc_hrm hS hv rfl).2) (Nat.zero_le _) (Nat.zero_le _)
        · replace c4 := zk_bz c4
          refine zr_iconst C d_A_cut_66 (n := 67) rfl (v := -1) (by decide) ?_
          exact zr_iret C d_A_cut_67 rfl (by have e8 : zc_cutF V (nI v) (nI t) (nI n0) x3 = false := (by simp [zc_cutF, zc_cutM, qv, qt, qn0, c1, c2, c3, c4]); have e9 : zc_cutM V (nI v) (nI t) (nI n0) x3 = false := (by simp [zc_cutF, zc_cutM, qv, qt, qn0, c1, c2, c3, c4]); rw [e8, e9] at hK; simp only [zc_W, zc_R, Bool.or_false, Bool.or_true, Bool.false_or, Bool.true_or, if_true, if_false, reduceCtorEq, qv, qt, qn0] at hK; exact hK h B E hS zc_fr_r) (Nat.zero_le _) (Nat.zero_le _)
    · refine zr_iload_n C d_A_cut_17 (n := 18) rfl rfl ?_
      refine zr_iconst C d_A_cut_18 (n := 19) rfl (v := nI 4) (by decide) ?_
      refine zr_callS2 C k_A_40 d_A_cut_19 (nx := 22) rfl ⟨by decide, by decide⟩ (Nat.le_of_ble_eq_true rfl) ⟨by decide, by decide⟩ (sp_A_isBelow l ?_)
      refine zr_if_ne C d_A_cut_22 (n := 25) rfl (t := 27) (by decide) (fun c6 => ?_) (fun c6 => ?_)
      · replace c6 := zk_bn c6
        obtain ⟨n0, hn0, rfl, qn0⟩ := zc_bl_n c6 (by decide)
        refine zr_aload_n C d_A_cut_27 (n := 28) rfl rfl ?_
        refine zr_iload_n C d_A_cut_28 (n := 29) rfl rfl ?_
        refine zr_callV1 C k_A_44 d_A_cut_29 (nx := 32) rfl hS.1 rfl ⟨by decide, by decide⟩ (Nat.le_of_ble_eq_true rfl) ⟨by decide, by decide⟩ (sp_A_offerOf l hS hv ?_)
        have hO := zc_o hS hv
        have ho := hO.1
        refine zr_iload_n C d_A_cut_32 (n := 33) rfl rfl ?_
        refine zr_iconst C d_A_cut_33 (n := 34) rfl (v := nI 4) (by decide) ?_
        refine zr_imul C d_A_cut_34 (n := 35) rfl ?_
        refine zr_iload_n C d_A_cut_35 (n := 36) rfl rfl ?_
        refine zr_iadd C d_A_cut_36 (n := 37) rfl ?_
        refine zr_toe (y := nI (t * 4 + n0)) (by simp only [pk_mul, nI_add]) ?_
        refine zr_callV1 C k_A_90 d_A_cut_37 (nx := 40) rfl ho rfl ⟨by decide, by decide⟩ (Nat.le_of_ble_eq_true rfl) ⟨by decide, by decide⟩ (sp_O_removeField l hO (by omega) ?_)
        refine zr_if_eq C d_A_cut_40 (n := 43) rfl (t := 47) (by decide) (fun c7 => ?_) (fun c7 => ?_)
        · replace c7 := zk_bz c7
          refine zr_iconst C d_A_cut_47 (n := 48) rfl (v := -1) (by decide) ?_
          exact zr_iret C d_A_cut_48 rfl (by have e8 : zc_cutF V (nI v) (nI t) (nI n0) x3 = false := (by simp [zc_cutF, zc_cutM, qv, qt, qn0, c1, c2, c6, c7]); have e9 : zc_cutM V (nI v) (nI t) (nI n0) x3 = false := (by simp [zc_cutF, zc_cutM, qv, qt, qn0, c1, c2, c6, c7]); rw [e8, e9] at hK; simp only [zc_W, zc_R, Bool.or_false, Bool.or_true, Bool.false_or, Bool.true_or, if_true, if_false, reduceCtorEq, qv, qt, qn0] at hK; rw [zc_rf_id hS hv rfl (by assumption)]; exact hK h B E hS zc_fr_r) (Nat.zero_le _) (Nat.zero_le _)
        · replace c7 := zk_bn c7
          refine zr_iconst C d_A_cut_43 (n := 44) rfl (v := nI 0) (by decide) ?_
          refine zr_goto C d_A_cut_44 (t := 48) (by decide) ?_
          exact zr_iret C d_A_cut_48 rfl (by have e8 : zc_cutF V (nI v) (nI t) (nI n0) x3 = true := (by simp [zc_cutF, zc_cutM, qv, qt, qn0, c1, c2, c6, c7]); have e9 : zc_cutM V (nI v) (nI t) (nI n0) x3 = false := (by simp [zc_cutF, zc_cutM, qv, qt, qn0, c1, c2, c6, c7]); rw [e8, e9] at hK; simp only [zc_W, zc_R, Bool.or_false, Bool.or_true, Bool.false_or, Bool.true_or, if_true, if_false, reduceCtorEq, qv, qt, qn0] at hK; exact hK _ B E (zc_hrf hS hv rfl).1 (zc_hrf hS hv rfl).2) (Nat.zero_le _) (Nat.zero_le _)
      · replace c6 := zk_bz c6
        refine zr_iconst C d_A_cut_25 (n := 26) rfl (v := -1) (by decide) ?_
        exact zr_iret C d_A_cut_26 rfl (by have e8 : zc_cutF V (nI v) (nI t) x2 x3 = false := (by simp [zc_cutF, zc_cutM, qv, qt, c1, c2, c6]); have e9 : zc_cutM V (nI v) (nI t) x2 x3 = false := (by simp [zc_cutF, zc_cutM, qv, qt, c1, c2, c6]); rw [e8, e9] at hK; simp only [zc_W, zc_R, Bool.or_false, Bool.or_true, Bool.false_or, Bool.true_or, if_true, if_false, reduceCtorEq, qv, qt] at hK; exact hK h B E hS zc_fr_r) (Nat.zero_le _) (Nat.zero_le _)
  · replace c1 := zk_bz c1
    refine zr_iconst C d_A_cut_9 (n := 10) rfl (v := -1) (by decide) ?_
    exact zr_iret C d_A_cut_10 rfl (by have e8 : zc_cutF V x0 x1 x2 x3 = false := (by simp [zc_cutF, zc_cutM, c1]); have e9 : zc_cutM V x0 x1 x2 x3 = false := (by simp [zc_cutF, zc_cutM, c1]); rw [e8, e9] at hK; simp only [zc_W, zc_R, Bool.or_false, Bool.or_true, Bool.false_or, Bool.true_or, if_true, if_false, reduceCtorEq] at hK; exact hK h B E hS zc_fr_r) (Nat.zero_le _) (Nat.zero_le _)
abbrev rm_A_copy : Room := { frames := 2, cells := 0, slots := 0, locals := 121 }
set_option maxHeartbeats 4000000 in
set_option maxRecDepth 100000 in
/-- copy -/
theorem sp_A_copy (l : Launch) {h : zk_H} {V : Nat → zo_O} {uk ut un : Nat → Nat} {ua : Nat → Int32} {uc : Nat} {B E : Nat → Int32} (hS : zc_at h V uk ut un ua uc B E) {K : Option Value → zk_H → Prop} (hK : ∀ (h' : zk_H) (B' E' : Nat → Int32), zc_at h' (zc_up V 1 (zc_cp (V 1) (V 0))) uk ut un ua uc B' E' → zc_fr h h' → K (some (.int (nI 0))) h') : zk_S l y_A_copy b_A_copy 1 (some .int) rm_A_copy [.ref (0 + 1)] h K := by
  refine zk_S_of R_A "copy" (by decide) rfl rfl [some (.ref (0 + 1))] 0 rfl (Nat.le_of_ble_eq_true rfl) (fun p e s m ar below meth c D dA b base C => ?_)
  refine zr_aload_n C d_A_copy_0 (n := 1) rfl rfl ?_
  refine zr_get C f_A_16 d_A_copy_1 (n := 4) rfl hS.1 rfl ?_
  refine zr_aload_n C d_A_copy_4 (n := 5) rfl rfl ?_
  refine zr_get C f_A_12 d_A_copy_5 (n := 8) rfl hS.1 rfl ?_
  refine zr_callV1 C k_A_96 d_A_copy_8 (nx := 11) rfl hS.2.2.1.1 rfl ⟨by decide, by decide⟩ (Nat.le_of_ble_eq_true rfl) ⟨by decide, by decide⟩ (sp_O_becomeAs l (o := 10) (q := 1) hS.2.2.1 hS.2.1 (by omega) ?_)
  refine zr_iconst C d_A_copy_11 (n := 12) rfl (v := nI 0) (by decide) ?_
  exact zr_iret C d_A_copy_12 rfl (hK _ B E (zc_hcp (v := 1) (o := 10) hS (by decide) rfl).1 (zc_hcp (v := 1) (o := 10) hS (by decide) rfl).2) (Nat.zero_le _) (Nat.zero_le _)
end
section
/-! what a binding says does not hang on what it said before -/
def zc_Z : Nat → Int32 := fun _ => 0
def zb_cj (O : zo_O) (t nm : Nat) : Nat → Nat → Option Nat
  | 0, _ => none
  | n + 1, p => match zb_pl (zo_fm O t nm p (-1)) with
    | none => zb_cj O t nm n (p + 1)
    | some j => if zb_nz (O 6 j) (nI 8) = true then zb_cj O t nm n (p + 1) else some j
def zb_cr (O : zo_O) (k : Nat) (B : Nat → Int32) (r : Option Nat) : Int32 × (Nat → Int32) := match r with
  | none => (-4, B)
  | some j => zb_m O k j B
theorem zb_cL_cj {O : zo_O} {k t nm : Nat} {B : Nat → Int32} : ∀ n p, zb_cL O k t nm B n p = zb_cr O k B (zb_cj O t nm n p)
  | 0, _ => rfl
  | n + 1, p => by
    cases h : zb_pl (zo_fm O t nm p (-1)) with
    | none => rw [zb_cL_n h, zb_cj, h]; exact zb_cL_cj n (p + 1)
    | some j =>
      by_cases h1 : zb_nz (O 6 j) (nI 8) = true
      · rw [zb_cL_h h h1, zb_cj, h]
        dsimp only
        rw [if_pos h1]
        exact zb_cL_cj n (p + 1)
      · rw [zb_cL_y h (by simpa using h1), zb_cj, h]
        dsimp only
        rw [if_neg h1]
        rfl
def zb_cJ (O : zo_O) (t nm ag : Nat) : Option Nat := zb_cj O t nm (if ag = 0 then 1 else 4 - ag) ag
theorem zb_cc_eq {O : zo_O} {k t nm ag : Nat} {B : Nat → Int32} : zb_cc O k t nm ag B = zb_cr O k B (zb_cJ O t nm ag) := zb_cL_cj _ _
/-- what counts of a binding, by the kind of use -/
def zb_sm (k : Nat) (B E : Nat → Int32) : Prop := B 2 = E 2 ∧ (k < 2 → B 3 = E 3 ∧ B 4 = E 4 ∧ B 5 = E 5) ∧ (2 ≤ k → B 1 = E 1 ∧ B 2 = 0) ∧ (k = 2 ∨ k = 3 → B 5 = E 5 ∧ B 6 = E 6 ∧ B 7 = E 7 ∧ B 8 = E 8) ∧ (k = 6 → B 7 = E 7)
theorem zb_u0 {B : Nat → Int32} {x : Int32} : upd B 0 x 0 = x := rfl
theorem zb_m5 : ¬ (-5 : Int32) = 0 := by decide
theorem zb_m4 : ¬ (-4 : Int32) = 0 := by decide
theorem zb_m3 : ¬ (-3 : Int32) = 0 := by decide
def zb_I (k : Nat) (B E : Nat → Int32) : Prop := B 0 = E 0 ∧ B 2 = E 2 ∧ (B 0 = 0 → zb_sm k B E)
theorem zb_I_f {O : zo_O} {k : Nat} (hk : k < 2) {B E : Nat → Int32} (h2 : B 2 = E 2) (r : Option Nat) : zb_I k (zb_fin (zb_f O k B r)) (zb_fin (zb_f O k E r)) := by
  cases r with
  | none => exact ⟨rfl, h2, fun q => absurd q zb_m4⟩
  | some j =>
    by_cases h8 : zb_nz (O 3 j) (nI 8) = true
    · rw [zb_f_h h8, zb_f_h h8]
      exact ⟨rfl, h2, fun q => absurd q zb_m4⟩
    · have h8' : zb_nz (O 3 j) (nI 8) = false := by simpa using h8
      by_cases h4 : k = 1 ∧ zb_nz (O 3 j) (nI 4) = true
      · rw [zb_f_x h8' h4, zb_f_x h8' h4]
        exact ⟨rfl, h2, fun q => absurd q zb_m5⟩
      · rw [zb_f_y h8' h4, zb_f_y h8' h4]
        exact ⟨rfl, rfl, fun _ => ⟨rfl, fun _ => ⟨rfl, rfl, rfl⟩, fun q => absurd q (by omega), fun q => absurd q (by omega), fun q => absurd q (by omega)⟩⟩
theorem zb_I_c {O : zo_O} {k : Nat} (hk : k = 2 ∨ k = 3) {B E : Nat → Int32} (h2 : B 2 = E 2) (h20 : B 2 = 0) (h1 : B 1 = E 1) (r : Option Nat) : zb_I k (zb_fin (zb_cr O k B r)) (zb_fin (zb_cr O k E r)) := by
  cases r with
  | none => exact ⟨rfl, h2, fun q => absurd q zb_m4⟩
  | some j =>
    by_cases hx : k = 3 ∧ zb_nz (O 6 j) (nI 1) = false
    · show zb_I k (zb_fin (zb_m O k j B)) (zb_fin (zb_m O k j E))
      rw [zb_m_no hx.1 hx.2, zb_m_no hx.1 hx.2]
      exact ⟨rfl, h2, fun q => absurd q zb_m5⟩
    · show zb_I k (zb_fin (zb_m O k j B)) (zb_fin (zb_m O k j E))
      rw [zb_m_yes hx, zb_m_yes hx]
      exact ⟨rfl, h2, fun _ => ⟨h2, fun q => absurd q (by omega), fun _ => ⟨h1, h20⟩, fun _ => ⟨rfl, rfl, rfl, rfl⟩, fun q => absurd q (by omega)⟩⟩
theorem zb_I_o {O : zo_O} {t : Nat} {B E : Nat → Int32} (h2 : B 2 = E 2) (h20 : B 2 = 0) (h1 : B 1 = E 1) (r : Option Nat) : zb_I 6 (zb_fin (zb_o O t B r)) (zb_fin (zb_o O t E r)) := by
  by_cases h4 : zo_hf O t (nI 4) = true
  · rw [zb_o_x h4, zb_o_x h4]
    exact ⟨rfl, h2, fun q => absurd q zb_m5⟩
  · have h4' : zo_hf O t (nI 4) = false := by simpa using h4
    cases r with
    | none =>
      rw [zb_o_n h4', zb_o_n h4']
      exact ⟨rfl, h2, fun q => absurd q zb_m4⟩
    | some j =>
      by_cases h8 : zb_nz (O 6 j) (nI 8) = true
      · rw [zb_o_h h4' h8, zb_o_h h4' h8]
        exact ⟨rfl, h2, fun q => absurd q zb_m4⟩
      · have h8' : zb_nz (O 6 j) (nI 8) = false := by simpa using h8
        rw [zb_o_y h4' h8', zb_o_y h4' h8']
        by_cases h5 : zb_nz (O 6 j) (nI 5) = true
        · rw [if_pos h5, if_pos h5]
          exact ⟨rfl, h2, fun q => absurd q zb_m5⟩
        · rw [if_neg h5, if_neg h5]
          exact ⟨rfl, h2, fun _ => ⟨h2, fun q => absurd q (by omega), fun _ => ⟨h1, h20⟩, fun q => absurd q (by omega), fun _ => rfl⟩⟩
theorem zb_I_e {k : Nat} (hk : k = 4 ∨ k = 5) {x : Int32} {B E : Nat → Int32} (h2 : B 2 = E 2) (h20 : B 2 = 0) (h1 : B 1 = E 1) : zb_I k (zb_fin (x, B)) (zb_fin (x, E)) :=
  ⟨rfl, h2, fun _ => ⟨h2, fun q => absurd q (by omega), fun _ => ⟨h1, h20⟩, fun q => absurd q (by omega), fun q => absurd q (by omega)⟩⟩
theorem zb_ind {O : zo_O} {k t nm ag : Nat} (hk : k < 7) (B E : Nat → Int32) : zb_I k (zb_bind O k t nm ag B) (zb_bind O k t nm ag E) := by
  by_cases h : zo_th O t = true ∧ zo_hf O t (nI 8) = false
  · rw [zb_bind_ok h, zb_bind_ok h]
    have h2 : zb_b1 O t B 2 = zb_b1 O t E 2 := rfl
    have h20 : zb_b1 O t B 2 = 0 := rfl
    have h1 : zb_b1 O t B 1 = zb_b1 O t E 1 := rfl
    generalize zb_b1 O t B = B1 at h2 h20 h1 ⊢
    generalize zb_b1 O t E = E1 at h2 h1 ⊢
    rcases (show k = 0 ∨ k = 1 ∨ k = 2 ∨ k = 3 ∨ k = 4 ∨ k = 5 ∨ k = 6 by omega) with rfl | rfl | rfl | rfl | rfl | rfl | rfl
    · exact zb_I_f (by decide) h2 _
    · exact zb_I_f (by decide) h2 _
    · show zb_I 2 (zb_fin (zb_cc O 2 t nm ag B1)) (zb_fin (zb_cc O 2 t nm ag E1))
      rw [zb_cc_eq, zb_cc_eq]
      exact zb_I_c (by decide) h2 h20 h1 _
    · show zb_I 3 (zb_fin (zb_cc O 3 t nm ag B1)) (zb_fin (zb_cc O 3 t nm ag E1))
      rw [zb_cc_eq, zb_cc_eq]
      exact zb_I_c (by decide) h2 h20 h1 _
    · exact zb_I_e (by decide) h2 h20 h1
    · exact zb_I_e (by decide) h2 h20 h1
    · exact zb_I_o h2 h20 h1 _
  · rw [zb_bind_no h, zb_bind_no h]
    exact ⟨rfl, rfl, fun q => absurd q zb_m3⟩
theorem zb_cj_lt {O : zo_O} (hw : zo_wf O) {t nm : Nat} (ht : t < 6) (hnm : nm < 3) : ∀ n p j, n + p ≤ 4 → zb_cj O t nm n p = some j → j < 72
  | 0, _, _, _, h => by cases h
  | n + 1, p, j, hn, h => by
    rw [zb_cj] at h
    rcases zo_fm_pl hw ht hnm (pa := p) (by omega) (an := -1) with e | ⟨i, hi, e, -⟩
    · rw [e, zb_pl_n] at h
      exact zb_cj_lt hw ht hnm n (p + 1) j (by omega) h
    · rw [e, zb_pl_s (by omega)] at h
      dsimp only at h
      by_cases h8 : zb_nz (O 6 i) (nI 8) = true
      · rw [if_pos h8] at h
        exact zb_cj_lt hw ht hnm n (p + 1) j (by omega) h
      · rw [if_neg h8] at h
        cases h
        exact hi
/-- of a call that compiles the parameter is a number below 4 -/
theorem zb_par {O : zo_O} {k t nm ag : Nat} {B : Nat → Int32} (hk : k = 2 ∨ k = 3) (he : zb_bind O k t nm ag B 0 = 0) : ∃ pa, pa < 4 ∧ zb_bind O k t nm ag B 6 = nI pa := by
  by_cases h : zo_th O t = true ∧ zo_hf O t (nI 8) = false
  · rw [zb_bind_ok h] at he ⊢
    have key : ∀ k, (zb_fin (zb_cr O k (zb_b1 O t B) (zb_cJ O t nm ag))) 0 = 0 → ∃ pa, pa < 4 ∧ (zb_fin (zb_cr O k (zb_b1 O t B) (zb_cJ O t nm ag))) 6 = nI pa := by
      intro k he
      cases hr : zb_cJ O t nm ag with
      | none => rw [hr] at he; exact absurd he zb_m4
      | some j =>
        rw [hr] at he
        by_cases hx : k = 3 ∧ zb_nz (O 6 j) (nI 1) = false
        · have q : (zb_fin (zb_m O k j (zb_b1 O t B))) 0 = 0 := he
          rw [zb_m_no hx.1 hx.2] at q
          exact absurd q zb_m5
        · refine ⟨j % 4, by omega, ?_⟩
          show (zb_fin (zb_m O k j (zb_b1 O t B))) 6 = _
          rw [zb_m_yes hx]
          rfl
    rcases hk with rfl | rfl
    · have q : zb_fin (zb_cc O 2 t nm ag (zb_b1 O t B)) 0 = 0 := he
      rw [zb_cc_eq] at q
      have r := key 2 q
      rw [← zb_cc_eq] at r
      exact r
    · have q : zb_fin (zb_cc O 3 t nm ag (zb_b1 O t B)) 0 = 0 := he
      rw [zb_cc_eq] at q
      have r := key 3 q
      rw [← zb_cc_eq] at r
      exact r
  · rw [zb_bind_no h] at he
    exact absurd he zb_m3
theorem zb_fw_0 {O : zo_O} {t nm ag pa : Nat} {B : Nat → Int32} : zb_fw O 0 t nm ag pa B = if B 2 = 0 then (if zo_th O t = true then (if zo_hf O t (nI 8) = true then -8 else zb_ff O 0 B (zb_pl (zo_ff O nm (B 3) 6 t))) else -6) else if zb_sv O t B (zb_pl (zo_ff O nm (-1) 6 t)) = true then nI 0 else nI 2 := rfl
theorem zb_fw_1 {O : zo_O} {t nm ag pa : Nat} {B : Nat → Int32} : zb_fw O 1 t nm ag pa B = if B 2 = 0 then (if zo_th O t = true then (if zo_hf O t (nI 8) = true then -8 else zb_ff O 1 B (zb_pl (zo_ff O nm (B 3) 6 t))) else -6) else if zb_sv O t B (zb_pl (zo_ff O nm (-1) 6 t)) = true then nI 0 else nI 2 := rfl
theorem zb_fw_2 {O : zo_O} {t nm ag pa : Nat} {B : Nat → Int32} : zb_fw O 2 t nm ag pa B = if B 2 = 0 then (if zo_th O t = true then (if zo_hf O t (nI 8) = true then -8 else zb_fc O t B (zb_pl (zo_fm O t nm pa (B 7)))) else -6) else if zb_sv O t B (zb_pl (zo_ff O nm (-1) 6 t)) = true then nI 0 else nI 2 := rfl
theorem zb_fw_3 {O : zo_O} {t nm ag pa : Nat} {B : Nat → Int32} : zb_fw O 3 t nm ag pa B = if B 2 = 0 then (if zo_th O t = true then (if zo_hf O t (nI 8) = true then -8 else zb_fc O t B (zb_pl (zo_fm O t nm pa (B 7)))) else -6) else if zb_sv O t B (zb_pl (zo_ff O nm (-1) 6 t)) = true then nI 0 else nI 2 := rfl
theorem zb_fw_4 {O : zo_O} {t nm ag pa : Nat} {B : Nat → Int32} : zb_fw O 4 t nm ag pa B = if B 2 = 0 then (if zo_th O t = true then (if zo_hf O t (nI 8) = true then -8 else (if zo_hf O t (nI 3) = true then -9 else nI 0)) else -6) else if zb_sv O t B (zb_pl (zo_ff O nm (-1) 6 t)) = true then nI 0 else nI 2 := rfl
theorem zb_fw_5 {O : zo_O} {t nm ag pa : Nat} {B : Nat → Int32} : zb_fw O 5 t nm ag pa B = if B 2 = 0 then (if zo_th O t = true then (if zo_hf O t (nI 8) = true then -8 else (if zb_sb O t B = true then -9 else nI 0)) else -6) else if zb_sv O t B (zb_pl (zo_ff O nm (-1) 6 t)) = true then nI 0 else nI 2 := rfl
theorem zb_fw_6 {O : zo_O} {t nm ag pa : Nat} {B : Nat → Int32} : zb_fw O 6 t nm ag pa B = if B 2 = 0 then (if zo_th O t = true then (if zo_hf O t (nI 8) = true then -8 else zb_fo O t B (zb_pl (zo_fm O t nm ag (-1)))) else -6) else if zb_sv O t B (zb_pl (zo_ff O nm (-1) 6 t)) = true then nI 0 else nI 2 := rfl
theorem zb_fw_sm {O : zo_O} {k t nm ag pa : Nat} (hk : k < 7) {B E : Nat → Int32} (h : zb_sm k B E) : zb_fw O k t nm ag pa B = zb_fw O k t nm ag pa E := by
  obtain ⟨h2, ha, hb, hc, hd⟩ := h
  have esb : B 1 = E 1 → zb_sb O t B = zb_sb O t E := fun h1 => by unfold zb_sb; rw [h1]
  rcases (show k = 0 ∨ k = 1 ∨ k = 2 ∨ k = 3 ∨ k = 4 ∨ k = 5 ∨ k = 6 by omega) with rfl | rfl | rfl | rfl | rfl | rfl | rfl
  · obtain ⟨h3, h4, h5⟩ := ha (by decide)
    have e1 : ∀ r, zb_ff O 0 B r = zb_ff O 0 E r := fun r => by unfold zb_ff; rw [h5]
    have e2 : ∀ r, zb_sv O t B r = zb_sv O t E r := fun r => by unfold zb_sv; rw [h3, h4]
    rw [zb_fw_0, zb_fw_0, h2, h3, e1, e2]
  · obtain ⟨h3, h4, h5⟩ := ha (by decide)
    have e1 : ∀ r, zb_ff O 1 B r = zb_ff O 1 E r := fun r => by unfold zb_ff; rw [h5]
    have e2 : ∀ r, zb_sv O t B r = zb_sv O t E r := fun r => by unfold zb_sv; rw [h3, h4]
    rw [zb_fw_1, zb_fw_1, h2, h3, e1, e2]
  · obtain ⟨h1, h20⟩ := hb (by decide)
    obtain ⟨h5, h6, h7, h8⟩ := hc (by decide)
    have e20 : E 2 = 0 := h2 ▸ h20
    have e1 : ∀ r, zb_fc O t B r = zb_fc O t E r := fun r => by unfold zb_fc; rw [h1, h5, h8]
    rw [zb_fw_2, zb_fw_2, if_pos h20, if_pos e20, h7, e1]
  · obtain ⟨h1, h20⟩ := hb (by decide)
    obtain ⟨h5, h6, h7, h8⟩ := hc (by decide)
    have e20 : E 2 = 0 := h2 ▸ h20
    have e1 : ∀ r, zb_fc O t B r = zb_fc O t E r := fun r => by unfold zb_fc; rw [h1, h5, h8]
    rw [zb_fw_3, zb_fw_3, if_pos h20, if_pos e20, h7, e1]
  · obtain ⟨h1, h20⟩ := hb (by decide)
    have e20 : E 2 = 0 := h2 ▸ h20
    rw [zb_fw_4, zb_fw_4, if_pos h20, if_pos e20]
  · obtain ⟨h1, h20⟩ := hb (by decide)
    have e20 : E 2 = 0 := h2 ▸ h20
    rw [zb_fw_5, zb_fw_5, if_pos h20, if_pos e20, esb h1]
  · obtain ⟨h1, h20⟩ := hb (by decide)
    have h7 := hd rfl
    have e20 : E 2 = 0 := h2 ▸ h20
    have e1 : ∀ r, zb_fo O t B r = zb_fo O t E r := fun r => by unfold zb_fo; rw [esb h1, h7]
    rw [zb_fw_6, zb_fw_6, if_pos h20, if_pos e20, e1]
theorem zb_sa_sm {k : Nat} (hk : k < 7) {B B2 E E2 : Nat → Int32} (h : zb_sm k B B2) (g : zb_sm k E E2) : zb_sa k B E = zb_sa k B2 E2 := by
  obtain ⟨h2, ha, hb, hc, hd⟩ := h
  obtain ⟨g2, ga, gb, gc, gd⟩ := g
  rcases (show k = 0 ∨ k = 1 ∨ k = 2 ∨ k = 3 ∨ k = 4 ∨ k = 5 ∨ k = 6 by omega) with rfl | rfl | rfl | rfl | rfl | rfl | rfl
  · obtain ⟨h3, h4, h5⟩ := ha (by decide)
    obtain ⟨g3, g4, g5⟩ := ga (by decide)
    simp only [zb_sa, zb_sf, h2, h3, h4, h5, g2, g3, g4, g5]
  · obtain ⟨h3, h4, h5⟩ := ha (by decide)
    obtain ⟨g3, g4, g5⟩ := ga (by decide)
    simp only [zb_sa, zb_sf, h2, h3, h4, h5, g2, g3, g4, g5]
  · obtain ⟨h1, -⟩ := hb (by decide)
    obtain ⟨h5, h6, h7, h8⟩ := hc (by decide)
    obtain ⟨g1, -⟩ := gb (by decide)
    obtain ⟨g5, g6, g7, g8⟩ := gc (by decide)
    simp only [zb_sa, h1, h5, h6, h7, g1, g5, g6, g7]
  · obtain ⟨h1, -⟩ := hb (by decide)
    obtain ⟨h5, h6, h7, h8⟩ := hc (by decide)
    obtain ⟨g1, -⟩ := gb (by decide)
    obtain ⟨g5, g6, g7, g8⟩ := gc (by decide)
    simp only [zb_sa, h1, h5, h6, h7, g1, g5, g6, g7]
  · rfl
  · obtain ⟨h1, -⟩ := hb (by decide)
    obtain ⟨g1, -⟩ := gb (by decide)
    simp only [zb_sa, h1, g1]
  · have h7 := hd rfl
    have g7 := gd rfl
    simp only [zb_sa, h7, g7]
/-- the class's answers, out of the offers and the use alone -/
def zc_bd (O : zo_O) (k t nm ag : Nat) : Nat → Int32 := zb_bind O k t nm ag zc_Z
def zc_fate (V : Nat → zo_O) (k t nm ag : Nat) : Int32 := if zc_bd (V 0) k t nm ag 0 = 0 then zb_fw (V 1) k t nm ag (zc_bd (V 0) k t nm ag 6).toNatClampNeg (zc_bd (V 0) k t nm ag) else zc_bd (V 0) k t nm ag 0
def zc_rec (V : Nat → zo_O) (k t nm ag : Nat) : Int32 := if zc_bd (V 0) k t nm ag 0 = 0 then (if zc_bd (V 1) k t nm ag 0 = 0 then (if zb_sa k (zc_bd (V 0) k t nm ag) (zc_bd (V 1) k t nm ag) = true then nI 0 else nI 1) else zc_bd (V 1) k t nm ag 0) else zc_bd (V 0) k t nm ag 0
end
