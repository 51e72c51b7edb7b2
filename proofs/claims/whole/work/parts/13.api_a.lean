def zc_bl (x y : Int32) : Bool := decide (¬ x < 0 ∧ ¬ y ≤ x)
theorem zc_bl_n {x : Int32} {n : Nat} (h : zc_bl x (nI n) = true) (hn : n < 2147483648) : ∃ j, j < n ∧ x = nI j ∧ (nI j).toNatClampNeg = j := by
  have h2 := of_decide_eq_true h
  rcases pk_ix x hn with q | q | ⟨j, hj, e⟩
  · exact absurd q h2.1
  · exact absurd q h2.2
  · exact ⟨j, hj, e, nI_clamp (by omega)⟩
def zc_ff (x : Int32) : Bool := zc_bl x (nI 32) && (!zb_nz x (nI 2)) && (!zb_nz x (nI 16) || decide (x &&& nI 5 = nI 5))
def zc_mf (x : Int32) : Bool := zc_bl x (nI 16) && (!zb_nz x (nI 2) || decide (x = nI 2))
/-- the class's cells: one object, two offers, 16 uses, two bindings -/
def zc_at (h : zk_H) (V : Nat → zo_O) (uk ut un : Nat → Nat) (ua : Nat → Int32) (uc : Nat) (B E : Nat → Int32) : Prop :=
  h[0]? = some (.inr (3, [.ref 2, .ref 11, .ref 20, .int (nI uc), .ref 37, .ref 38])) ∧ zo_at h 1 (V 0) ∧ zo_at h 10 (V 1) ∧ (∃ f : Nat → Option Nat, h[19]? = some (.inl (1, 16, .inr (.inr (.inr (.inr f))))) ∧ ∀ j, j < 16 → f j = some (j + 20 + 1)) ∧ (∀ j, j < 16 → h[j + 20]? = some (zu_c (uk j) (ut j) (un j) (ua j))) ∧ h[36]? = some (zb_c B) ∧ h[37]? = some (zb_c E)
def zc_fr (h h' : zk_H) : Prop := h'.length = h.length ∧ ∀ j, 38 ≤ j → h'[j]? = h[j]?
theorem zc_fr_r {h : zk_H} : zc_fr h h := ⟨rfl, fun _ _ => rfl⟩
theorem zc_fr_t {h h1 h2 : zk_H} (a : zc_fr h h1) (b : zc_fr h1 h2) : zc_fr h h2 := ⟨b.1.trans a.1, fun j hj => (b.2 j hj).trans (a.2 j hj)⟩
def zc_up (V : Nat → zo_O) (v : Nat) (O : zo_O) : Nat → zo_O := fun w => if w = v then O else V w
theorem zc_o {h : zk_H} {V : Nat → zo_O} {uk ut un : Nat → Nat} {ua : Nat → Int32} {uc : Nat} {B E : Nat → Int32} (hS : zc_at h V uk ut un ua uc B E) {v : Nat} (hv : v < 2) : zo_at h (9 * v + 1) (V v) := by
  rcases (show v = 0 ∨ v = 1 by omega) with rfl | rfl
  · exact hS.2.1
  · exact hS.2.2.1
theorem zo_at_kept {h h' : zk_H} {o : Nat} {O : zo_O} (hO : zo_at h o O) (hk : ∀ j, o ≤ j → j ≤ o + 8 → h'[j]? = h[j]?) : zo_at h' o O := by
  obtain ⟨ho, a0, a1, a2, a3, a4, a5, a6, a7⟩ := hO
  exact ⟨(hk _ (by omega) (by omega)).trans ho, (hk _ (by omega) (by omega)).trans a0, (hk _ (by omega) (by omega)).trans a1, (hk _ (by omega) (by omega)).trans a2, (hk _ (by omega) (by omega)).trans a3, (hk _ (by omega) (by omega)).trans a4, (hk _ (by omega) (by omega)).trans a5, (hk _ (by omega) (by omega)).trans a6, (hk _ (by omega) (by omega)).trans a7⟩
theorem zc_off {h h' : zk_H} {V : Nat → zo_O} {uk ut un : Nat → Nat} {ua : Nat → Int32} {uc : Nat} {B E : Nat → Int32} {v : Nat} {O : zo_O} (hS : zc_at h V uk ut un ua uc B E) (hv : v < 2) (h1 : zo_at h' (9 * v + 1) O) (h2 : ∀ j, j < 9 * v + 1 ∨ 9 * v + 9 < j → h'[j]? = h[j]?) (h3 : h'.length = h.length) : zc_at h' (zc_up V v O) uk ut un ua uc B E ∧ zc_fr h h' := by
  obtain ⟨s0, s1, s2, ⟨f, s3, s4⟩, s5, s6, s7⟩ := hS
  refine ⟨⟨(h2 _ (by omega)).trans s0, ?_, ?_, ⟨f, (h2 _ (by omega)).trans s3, s4⟩, fun j hj => (h2 _ (by omega)).trans (s5 j hj), (h2 _ (by omega)).trans s6, (h2 _ (by omega)).trans s7⟩, h3, fun j hj => h2 j (by omega)⟩
  · rcases (show v = 0 ∨ v = 1 by omega) with rfl | rfl
    · exact h1
    · exact zo_at_kept s1 (fun j q1 q2 => h2 j (by omega))
  · rcases (show v = 0 ∨ v = 1 by omega) with rfl | rfl
    · exact zo_at_kept s2 (fun j q1 q2 => h2 j (by omega))
    · exact h1
theorem zk_gs {h : zk_H} {i j : Nat} {x : zk_E} (hne : i ≠ j) : (h.set i x)[j]? = h[j]? := List.getElem?_set_ne hne
def zc_pt (O : zo_O) (t : Nat) (x1 x2 x3 : Int32) : zo_O := fun a => if a = 0 then upd (O 0) t x1 else if a = 1 then upd (O 1) t x2 else if a = 2 then upd (O 2) t x3 else O a
def zc_pf (O : zo_O) (j : Nat) (x1 x2 x3 : Int32) : zo_O := fun a => if a = 3 then upd (O 3) j x2 else if a = 4 then upd (O 4) j x1 else if a = 5 then upd (O 5) j (zo_fnum x2 x3) else O a
def zc_pm (O : zo_O) (j : Nat) (x1 x2 : Int32) : zo_O := fun a => if a = 6 then upd (O 6) j x2 else if a = 7 then upd (O 7) j x1 else O a
def zc_rf (O : zo_O) (j : Nat) : zo_O := fun a => if a = 3 then upd (O 3) j (-1) else O a
def zc_rm (O : zo_O) (j : Nat) : zo_O := fun a => if a = 6 then upd (O 6) j (-1) else O a
def zc_rt (O : zo_O) (t : Nat) : zo_O := fun a => if a = 3 then zo_cl (t * 4) 4 0 (O 3) else if a = 6 then zo_cl (t * 12) 12 0 (O 6) else zc_pt O t (-1) (nI 6) (nI 0) a
def zc_cp (O P : zo_O) : zo_O := fun a => va_cpy (P a) (O a) 0 0 (if a < 3 then 6 else if a < 6 then 24 else 72)
theorem zc_hpt {h : zk_H} {V : Nat → zo_O} {uk ut un : Nat → Nat} {ua : Nat → Int32} {uc : Nat} {B E : Nat → Int32} {v o : Nat} {t : Nat} {x1 x2 x3 : Int32} (hS : zc_at h V uk ut un ua uc B E) (hv : v < 2) (e : 9 * v + 1 = o) : zc_at (((h.set (o + 1) (.inl (0, 6, .inl (upd (V v 0) t x1)))).set (o + 2) (.inl (0, 6, .inl (upd (V v 1) t x2)))).set (o + 3) (.inl (0, 6, .inl (upd (V v 2) t x3)))) (zc_up V v (zc_pt (V v) t x1 x2 x3)) uk ut un ua uc B E ∧ zc_fr h (((h.set (o + 1) (.inl (0, 6, .inl (upd (V v 0) t x1)))).set (o + 2) (.inl (0, 6, .inl (upd (V v 1) t x2)))).set (o + 3) (.inl (0, 6, .inl (upd (V v 2) t x3)))) := by
  have hO := zc_o hS hv
  subst e
  obtain ⟨ho, a0, a1, a2, a3, a4, a5, a6, a7⟩ := hO
  refine zc_off hS hv ⟨(zk_g1 (by omega) (zk_g1 (by omega) (zk_g1 (by omega) ho))), (zk_g1 (by omega) (zk_g1 (by omega) (zk_g0 a0))), (zk_g1 (by omega) (zk_g0 (zk_g1 (by omega) a1))), (zk_g0 (zk_g1 (by omega) (zk_g1 (by omega) a2))), (zk_g1 (by omega) (zk_g1 (by omega) (zk_g1 (by omega) a3))), (zk_g1 (by omega) (zk_g1 (by omega) (zk_g1 (by omega) a4))), (zk_g1 (by omega) (zk_g1 (by omega) (zk_g1 (by omega) a5))), (zk_g1 (by omega) (zk_g1 (by omega) (zk_g1 (by omega) a6))), (zk_g1 (by omega) (zk_g1 (by omega) (zk_g1 (by omega) a7)))⟩ (fun j hj => ?_) (by simp only [List.length_set])
  rw [zk_gs (by omega)]; rw [zk_gs (by omega)]; rw [zk_gs (by omega)]
theorem zc_hpf {h : zk_H} {V : Nat → zo_O} {uk ut un : Nat → Nat} {ua : Nat → Int32} {uc : Nat} {B E : Nat → Int32} {v o : Nat} {j : Nat} {x1 x2 x3 : Int32} (hS : zc_at h V uk ut un ua uc B E) (hv : v < 2) (e : 9 * v + 1 = o) : zc_at (((h.set (o + 4) (.inl (0, 24, .inl (upd (V v 3) j x2)))).set (o + 5) (.inl (0, 24, .inl (upd (V v 4) j x1)))).set (o + 6) (.inl (0, 24, .inl (upd (V v 5) j (zo_fnum x2 x3))))) (zc_up V v (zc_pf (V v) j x1 x2 x3)) uk ut un ua uc B E ∧ zc_fr h (((h.set (o + 4) (.inl (0, 24, .inl (upd (V v 3) j x2)))).set (o + 5) (.inl (0, 24, .inl (upd (V v 4) j x1)))).set (o + 6) (.inl (0, 24, .inl (upd (V v 5) j (zo_fnum x2 x3))))) := by
  have hO := zc_o hS hv
  subst e
  obtain ⟨ho, a0, a1, a2, a3, a4, a5, a6, a7⟩ := hO
  refine zc_off hS hv ⟨(zk_g1 (by omega) (zk_g1 (by omega) (zk_g1 (by omega) ho))), (zk_g1 (by omega) (zk_g1 (by omega) (zk_g1 (by omega) a0))), (zk_g1 (by omega) (zk_g1 (by omega) (zk_g1 (by omega) a1))), (zk_g1 (by omega) (zk_g1 (by omega) (zk_g1 (by omega) a2))), (zk_g1 (by omega) (zk_g1 (by omega) (zk_g0 a3))), (zk_g1 (by omega) (zk_g0 (zk_g1 (by omega) a4))), (zk_g0 (zk_g1 (by omega) (zk_g1 (by omega) a5))), (zk_g1 (by omega) (zk_g1 (by omega) (zk_g1 (by omega) a6))), (zk_g1 (by omega) (zk_g1 (by omega) (zk_g1 (by omega) a7)))⟩ (fun j hj => ?_) (by simp only [List.length_set])
  rw [zk_gs (by omega)]; rw [zk_gs (by omega)]; rw [zk_gs (by omega)]
theorem zc_hpm {h : zk_H} {V : Nat → zo_O} {uk ut un : Nat → Nat} {ua : Nat → Int32} {uc : Nat} {B E : Nat → Int32} {v o : Nat} {j : Nat} {x1 x2 : Int32} (hS : zc_at h V uk ut un ua uc B E) (hv : v < 2) (e : 9 * v + 1 = o) : zc_at ((h.set (o + 7) (.inl (0, 72, .inl (upd (V v 6) j x2)))).set (o + 8) (.inl (0, 72, .inl (upd (V v 7) j x1)))) (zc_up V v (zc_pm (V v) j x1 x2)) uk ut un ua uc B E ∧ zc_fr h ((h.set (o + 7) (.inl (0, 72, .inl (upd (V v 6) j x2)))).set (o + 8) (.inl (0, 72, .inl (upd (V v 7) j x1)))) := by
  have hO := zc_o hS hv
  subst e
  obtain ⟨ho, a0, a1, a2, a3, a4, a5, a6, a7⟩ := hO
  refine zc_off hS hv ⟨(zk_g1 (by omega) (zk_g1 (by omega) ho)), (zk_g1 (by omega) (zk_g1 (by omega) a0)), (zk_g1 (by omega) (zk_g1 (by omega) a1)), (zk_g1 (by omega) (zk_g1 (by omega) a2)), (zk_g1 (by omega) (zk_g1 (by omega) a3)), (zk_g1 (by omega) (zk_g1 (by omega) a4)), (zk_g1 (by omega) (zk_g1 (by omega) a5)), (zk_g1 (by omega) (zk_g0 a6)), (zk_g0 (zk_g1 (by omega) a7))⟩ (fun j hj => ?_) (by simp only [List.length_set])
  rw [zk_gs (by omega)]; rw [zk_gs (by omega)]
theorem zc_hrf {h : zk_H} {V : Nat → zo_O} {uk ut un : Nat → Nat} {ua : Nat → Int32} {uc : Nat} {B E : Nat → Int32} {v o : Nat} {j : Nat} (hS : zc_at h V uk ut un ua uc B E) (hv : v < 2) (e : 9 * v + 1 = o) : zc_at (h.set (o + 4) (.inl (0, 24, .inl (upd (V v 3) j (-1))))) (zc_up V v (zc_rf (V v) j)) uk ut un ua uc B E ∧ zc_fr h (h.set (o + 4) (.inl (0, 24, .inl (upd (V v 3) j (-1))))) := by
  have hO := zc_o hS hv
  subst e
  obtain ⟨ho, a0, a1, a2, a3, a4, a5, a6, a7⟩ := hO
  refine zc_off hS hv ⟨(zk_g1 (by omega) ho), (zk_g1 (by omega) a0), (zk_g1 (by omega) a1), (zk_g1 (by omega) a2), (zk_g0 a3), (zk_g1 (by omega) a4), (zk_g1 (by omega) a5), (zk_g1 (by omega) a6), (zk_g1 (by omega) a7)⟩ (fun j hj => ?_) (by simp only [List.length_set])
  rw [zk_gs (by omega)]
theorem zc_hrm {h : zk_H} {V : Nat → zo_O} {uk ut un : Nat → Nat} {ua : Nat → Int32} {uc : Nat} {B E : Nat → Int32} {v o : Nat} {j : Nat} (hS : zc_at h V uk ut un ua uc B E) (hv : v < 2) (e : 9 * v + 1 = o) : zc_at (h.set (o + 7) (.inl (0, 72, .inl (upd (V v 6) j (-1))))) (zc_up V v (zc_rm (V v) j)) uk ut un ua uc B E ∧ zc_fr h (h.set (o + 7) (.inl (0, 72, .inl (upd (V v 6) j (-1))))) := by
  have hO := zc_o hS hv
  subst e
  obtain ⟨ho, a0, a1, a2, a3, a4, a5, a6, a7⟩ := hO
  refine zc_off hS hv ⟨(zk_g1 (by omega) ho), (zk_g1 (by omega) a0), (zk_g1 (by omega) a1), (zk_g1 (by omega) a2), (zk_g1 (by omega) a3), (zk_g1 (by omega) a4), (zk_g1 (by omega) a5), (zk_g0 a6), (zk_g1 (by omega) a7)⟩ (fun j hj => ?_) (by simp only [List.length_set])
  rw [zk_gs (by omega)]
theorem zc_hrt {h : zk_H} {V : Nat → zo_O} {uk ut un : Nat → Nat} {ua : Nat → Int32} {uc : Nat} {B E : Nat → Int32} {v o : Nat} {t : Nat} (hS : zc_at h V uk ut un ua uc B E) (hv : v < 2) (e : 9 * v + 1 = o) : zc_at (((((h.set (o + 1) (.inl (0, 6, .inl (upd (V v 0) t (-1))))).set (o + 2) (.inl (0, 6, .inl (upd (V v 1) t (nI 6))))).set (o + 3) (.inl (0, 6, .inl (upd (V v 2) t (nI 0))))).set (o + 4) (.inl (0, 24, .inl (zo_cl (t * 4) 4 0 (V v 3))))).set (o + 7) (.inl (0, 72, .inl (zo_cl (t * 12) 12 0 (V v 6))))) (zc_up V v (zc_rt (V v) t)) uk ut un ua uc B E ∧ zc_fr h (((((h.set (o + 1) (.inl (0, 6, .inl (upd (V v 0) t (-1))))).set (o + 2) (.inl (0, 6, .inl (upd (V v 1) t (nI 6))))).set (o + 3) (.inl (0, 6, .inl (upd (V v 2) t (nI 0))))).set (o + 4) (.inl (0, 24, .inl (zo_cl (t * 4) 4 0 (V v 3))))).set (o + 7) (.inl (0, 72, .inl (zo_cl (t * 12) 12 0 (V v 6))))) := by
  have hO := zc_o hS hv
  subst e
  obtain ⟨ho, a0, a1, a2, a3, a4, a5, a6, a7⟩ := hO
  refine zc_off hS hv ⟨(zk_g1 (by omega) (zk_g1 (by omega) (zk_g1 (by omega) (zk_g1 (by omega) (zk_g1 (by omega) ho))))), (zk_g1 (by omega) (zk_g1 (by omega) (zk_g1 (by omega) (zk_g1 (by omega) (zk_g0 a0))))), (zk_g1 (by omega) (zk_g1 (by omega) (zk_g1 (by omega) (zk_g0 (zk_g1 (by omega) a1))))), (zk_g1 (by omega) (zk_g1 (by omega) (zk_g0 (zk_g1 (by omega) (zk_g1 (by omega) a2))))), (zk_g1 (by omega) (zk_g0 (zk_g1 (by omega) (zk_g1 (by omega) (zk_g1 (by omega) a3))))), (zk_g1 (by omega) (zk_g1 (by omega) (zk_g1 (by omega) (zk_g1 (by omega) (zk_g1 (by omega) a4))))), (zk_g1 (by omega) (zk_g1 (by omega) (zk_g1 (by omega) (zk_g1 (by omega) (zk_g1 (by omega) a5))))), (zk_g0 (zk_g1 (by omega) (zk_g1 (by omega) (zk_g1 (by omega) (zk_g1 (by omega) a6))))), (zk_g1 (by omega) (zk_g1 (by omega) (zk_g1 (by omega) (zk_g1 (by omega) (zk_g1 (by omega) a7)))))⟩ (fun j hj => ?_) (by simp only [List.length_set])
  rw [zk_gs (by omega)]; rw [zk_gs (by omega)]; rw [zk_gs (by omega)]; rw [zk_gs (by omega)]; rw [zk_gs (by omega)]
theorem zc_hcp {h : zk_H} {V : Nat → zo_O} {uk ut un : Nat → Nat} {ua : Nat → Int32} {uc : Nat} {B E : Nat → Int32} {v o : Nat} {P : zo_O} (hS : zc_at h V uk ut un ua uc B E) (hv : v < 2) (e : 9 * v + 1 = o) : zc_at ((((((((h.set (o + 1) (.inl (0, 6, .inl (va_cpy (P 0) (V v 0) 0 0 6)))).set (o + 2) (.inl (0, 6, .inl (va_cpy (P 1) (V v 1) 0 0 6)))).set (o + 3) (.inl (0, 6, .inl (va_cpy (P 2) (V v 2) 0 0 6)))).set (o + 4) (.inl (0, 24, .inl (va_cpy (P 3) (V v 3) 0 0 24)))).set (o + 5) (.inl (0, 24, .inl (va_cpy (P 4) (V v 4) 0 0 24)))).set (o + 6) (.inl (0, 24, .inl (va_cpy (P 5) (V v 5) 0 0 24)))).set (o + 7) (.inl (0, 72, .inl (va_cpy (P 6) (V v 6) 0 0 72)))).set (o + 8) (.inl (0, 72, .inl (va_cpy (P 7) (V v 7) 0 0 72)))) (zc_up V v (zc_cp (V v) P)) uk ut un ua uc B E ∧ zc_fr h ((((((((h.set (o + 1) (.inl (0, 6, .inl (va_cpy (P 0) (V v 0) 0 0 6)))).set (o + 2) (.inl (0, 6, .inl (va_cpy (P 1) (V v 1) 0 0 6)))).set (o + 3) (.inl (0, 6, .inl (va_cpy (P 2) (V v 2) 0 0 6)))).set (o + 4) (.inl (0, 24, .inl (va_cpy (P 3) (V v 3) 0 0 24)))).set (o + 5) (.inl (0, 24, .inl (va_cpy (P 4) (V v 4) 0 0 24)))).set (o + 6) (.inl (0, 24, .inl (va_cpy (P 5) (V v 5) 0 0 24)))).set (o + 7) (.inl (0, 72, .inl (va_cpy (P 6) (V v 6) 0 0 72)))).set (o + 8) (.inl (0, 72, .inl (va_cpy (P 7) (V v 7) 0 0 72)))) := by
  have hO := zc_o hS hv
  subst e
  obtain ⟨ho, a0, a1, a2, a3, a4, a5, a6, a7⟩ := hO
  refine zc_off hS hv ⟨(zk_g1 (by omega) (zk_g1 (by omega) (zk_g1 (by omega) (zk_g1 (by omega) (zk_g1 (by omega) (zk_g1 (by omega) (zk_g1 (by omega) (zk_g1 (by omega) ho)))))))), (zk_g1 (by omega) (zk_g1 (by omega) (zk_g1 (by omega) (zk_g1 (by omega) (zk_g1 (by omega) (zk_g1 (by omega) (zk_g1 (by omega) (zk_g0 a0)))))))), (zk_g1 (by omega) (zk_g1 (by omega) (zk_g1 (by omega) (zk_g1 (by omega) (zk_g1 (by omega) (zk_g1 (by omega) (zk_g0 (zk_g1 (by omega) a1)))))))), (zk_g1 (by omega) (zk_g1 (by omega) (zk_g1 (by omega) (zk_g1 (by omega) (zk_g1 (by omega) (zk_g0 (zk_g1 (by omega) (zk_g1 (by omega) a2)))))))), (zk_g1 (by omega) (zk_g1 (by omega) (zk_g1 (by omega) (zk_g1 (by omega) (zk_g0 (zk_g1 (by omega) (zk_g1 (by omega) (zk_g1 (by omega) a3)))))))), (zk_g1 (by omega) (zk_g1 (by omega) (zk_g1 (by omega) (zk_g0 (zk_g1 (by omega) (zk_g1 (by omega) (zk_g1 (by omega) (zk_g1 (by omega) a4)))))))), (zk_g1 (by omega) (zk_g1 (by omega) (zk_g0 (zk_g1 (by omega) (zk_g1 (by omega) (zk_g1 (by omega) (zk_g1 (by omega) (zk_g1 (by omega) a5)))))))), (zk_g1 (by omega) (zk_g0 (zk_g1 (by omega) (zk_g1 (by omega) (zk_g1 (by omega) (zk_g1 (by omega) (zk_g1 (by omega) (zk_g1 (by omega) a6)))))))), (zk_g0 (zk_g1 (by omega) (zk_g1 (by omega) (zk_g1 (by omega) (zk_g1 (by omega) (zk_g1 (by omega) (zk_g1 (by omega) (zk_g1 (by omega) a7))))))))⟩ (fun j hj => ?_) (by simp only [List.length_set])
  rw [zk_gs (by omega)]; rw [zk_gs (by omega)]; rw [zk_gs (by omega)]; rw [zk_gs (by omega)]; rw [zk_gs (by omega)]; rw [zk_gs (by omega)]; rw [zk_gs (by omega)]; rw [zk_gs (by omega)]
abbrev rm_A_isBelow : Room := { frames := 0, cells := 0, slots := 0, locals := 0 }
set_option maxHeartbeats 4000000 in
set_option maxRecDepth 100000 in
/-- isBelow -/
theorem sp_A_isBelow (l : Launch) {h : zk_H} {x y : Int32} {K : Option Value → zk_H → Prop} (hK : K (some (.int (zk_b (zc_bl x y)))) h) : zk_S l y_A_isBelow b_A_isBelow 2 (some .boolean) rm_A_isBelow [.int x, .int y] h K := by
  refine zk_S_of R_A "isBelow" (by decide) rfl rfl [some (.int x), some (.int y)] 0 rfl (Nat.le_of_ble_eq_true rfl) (fun p e s m ar below meth c D dA b base C => ?_)
  refine zr_iload_n C d_A_isBelow_0 (n := 1) rfl rfl ?_
  refine zr_if_lt C d_A_isBelow_1 (n := 4) rfl (t := 13) (by decide) (fun c1 => ?_) (fun c1 => ?_)
  · refine zr_iconst C d_A_isBelow_13 (n := 14) rfl (v := nI 0) (by decide) ?_
    exact zr_zret C d_A_isBelow_14 (by first | (simp [zc_bl, zk_b, c1]; done) | simp_all [zc_bl, zk_b]) (by decide) hK (Nat.zero_le _) (Nat.zero_le _)
  · refine zr_iload_n C d_A_isBelow_4 (n := 5) rfl rfl ?_
    refine zr_iload_n C d_A_isBelow_5 (n := 6) rfl rfl ?_
    refine zr_icmp_ge C d_A_isBelow_6 (n := 9) rfl (t := 13) (by decide) (fun c2 => ?_) (fun c2 => ?_)
    · refine zr_iconst C d_A_isBelow_13 (n := 14) rfl (v := nI 0) (by decide) ?_
      exact zr_zret C d_A_isBelow_14 (by first | (simp [zc_bl, zk_b, c1, c2]; done) | simp_all [zc_bl, zk_b]) (by decide) hK (Nat.zero_le _) (Nat.zero_le _)
    · refine zr_iconst C d_A_isBelow_9 (n := 10) rfl (v := nI 1) (by decide) ?_
      refine zr_goto C d_A_isBelow_10 (t := 14) (by decide) ?_
      exact zr_zret C d_A_isBelow_14 (by first | (simp [zc_bl, zk_b, c1, c2]; done) | simp_all [zc_bl, zk_b]) (by decide) hK (Nat.zero_le _) (Nat.zero_le _)
abbrev rm_A_areFieldFlags : Room := { frames := 1, cells := 0, slots := 0, locals := 21 }
set_option maxHeartbeats 4000000 in
set_option maxRecDepth 100000 in
/-- areFieldFlags -/
theorem sp_A_areFieldFlags (l : Launch) {h : zk_H} {x : Int32} {K : Option Value → zk_H → Prop} (hK : K (some (.int (zk_b (zc_ff x)))) h) : zk_S l y_A_areFieldFlags b_A_areFieldFlags 2 (some .boolean) rm_A_areFieldFlags [.int x] h K := by
  refine zk_S_of R_A "areFieldFlags" (by decide) rfl rfl [some (.int x), none] 1 rfl (Nat.le_of_ble_eq_true rfl) (fun p e s m ar below meth c D dA b base C => ?_)
  refine zr_iload_n C d_A_areFieldFlags_0 (n := 1) rfl rfl ?_
  refine zr_bipush C d_A_areFieldFlags_1 (n := 3) rfl (v := nI 32) (by decide) ?_
  refine zr_callS2 C k_A_40 d_A_areFieldFlags_3 (nx := 6) rfl ⟨by decide, by decide⟩ (Nat.le_of_ble_eq_true rfl) ⟨by decide, by decide⟩ (sp_A_isBelow l ?_)
  refine zr_if_eq C d_A_areFieldFlags_6 (n := 9) rfl (t := 15) (by decide) (fun c1 => ?_) (fun c1 => ?_)
  · replace c1 := zk_bz c1
    refine zr_iconst C d_A_areFieldFlags_15 (n := 16) rfl (v := nI 0) (by decide) ?_
    exact zr_zret C d_A_areFieldFlags_16 (by first | (simp [zc_ff, zk_b, c1]; done) | simp_all [zc_ff, zk_b]) (by decide) hK (Nat.zero_le _) (Nat.zero_le _)
  · replace c1 := zk_bn c1
    refine zr_iload_n C d_A_areFieldFlags_9 (n := 10) rfl rfl ?_
    refine zr_iconst C d_A_areFieldFlags_10 (n := 11) rfl (v := nI 2) (by decide) ?_
    refine zr_iand C d_A_areFieldFlags_11 (n := 12) rfl ?_
    refine zr_if_eq C d_A_areFieldFlags_12 (n := 15) rfl (t := 17) (by decide) (fun c2 => ?_) (fun c2 => ?_)
    · replace c2 := zb_nzf c2
      refine zr_iconst C d_A_areFieldFlags_17 (n := 18) rfl (v := nI 5) (by decide) ?_
      refine zr_istore_n C d_A_areFieldFlags_18 (n := 19) rfl (by decide) rfl ?_
      refine zr_iload_n C d_A_areFieldFlags_19 (n := 20) rfl rfl ?_
      refine zr_bipush C d_A_areFieldFlags_20 (n := 22) rfl (v := nI 16) (by decide) ?_
      refine zr_iand C d_A_areFieldFlags_22 (n := 23) rfl ?_
      refine zr_if_eq C d_A_areFieldFlags_23 (n := 26) rfl (t := 33) (by decide) (fun c3 => ?_) (fun c3 => ?_)
      · replace c3 := zb_nzf c3
        refine zr_iconst C d_A_areFieldFlags_33 (n := 34) rfl (v := nI 1) (by decide) ?_
        refine zr_goto C d_A_areFieldFlags_34 (t := 38) (by decide) ?_
        exact zr_zret C d_A_areFieldFlags_38 (by first | (simp [zc_ff, zk_b, c1, c2, c3]; done) | simp_all [zc_ff, zk_b]) (by decide) hK (Nat.zero_le _) (Nat.zero_le _)
      · replace c3 := zb_nzt c3
        refine zr_iload_n C d_A_areFieldFlags_26 (n := 27) rfl rfl ?_
        refine zr_iload_n C d_A_areFieldFlags_27 (n := 28) rfl rfl ?_
        refine zr_iand C d_A_areFieldFlags_28 (n := 29) rfl ?_
        refine zr_iload_n C d_A_areFieldFlags_29 (n := 30) rfl rfl ?_
        refine zr_icmp_ne C d_A_areFieldFlags_30 (n := 33) rfl (t := 37) (by decide) (fun c4 => ?_) (fun c4 => ?_)
        · refine zr_iconst C d_A_areFieldFlags_37 (n := 38) rfl (v := nI 0) (by decide) ?_
          exact zr_zret C d_A_areFieldFlags_38 (by first | (simp [zc_ff, zk_b, c1, c2, c3, c4]; done) | simp_all [zc_ff, zk_b]) (by decide) hK (Nat.zero_le _) (Nat.zero_le _)
        · refine zr_iconst C d_A_areFieldFlags_33 (n := 34) rfl (v := nI 1) (by decide) ?_
          refine zr_goto C d_A_areFieldFlags_34 (t := 38) (by decide) ?_
          exact zr_zret C d_A_areFieldFlags_38 (by first | (simp [zc_ff, zk_b, c1, c2, c3, c4]; done) | simp_all [zc_ff, zk_b]) (by decide) hK (Nat.zero_le _) (Nat.zero_le _)
    · replace c2 := zb_nzt c2
      refine zr_iconst C d_A_areFieldFlags_15 (n := 16) rfl (v := nI 0) (by decide) ?_
      exact zr_zret C d_A_areFieldFlags_16 (by first | (simp [zc_ff, zk_b, c1, c2]; done) | simp_all [zc_ff, zk_b]) (by decide) hK (Nat.zero_le _) (Nat.zero_le _)
abbrev rm_A_areMethodFlags : Room := { frames := 1, cells := 0, slots := 0, locals := 21 }
set_option maxHeartbeats 4000000 in
set_option maxRecDepth 100000 in
/-- areMethodFlags -/
theorem sp_A_areMethodFlags (l : Launch) {h : zk_H} {x : Int32} {K : Option Value → zk_H → Prop} (hK : K (some (.int (zk_b (zc_mf x)))) h) : zk_S l y_A_areMethodFlags b_A_areMethodFlags 1 (some .boolean) rm_A_areMethodFlags [.int x] h K := by
  refine zk_S_of R_A "areMethodFlags" (by decide) rfl rfl [some (.int x)] 0 rfl (Nat.le_of_ble_eq_true rfl) (fun p e s m ar below meth c D dA b base C => ?_)
  refine zr_iload_n C d_A_areMethodFlags_0 (n := 1) rfl rfl ?_
  refine zr_bipush C d_A_areMethodFlags_1 (n := 3) rfl (v := nI 16) (by decide) ?_
  refine zr_callS2 C k_A_40 d_A_areMethodFlags_3 (nx := 6) rfl ⟨by decide, by decide⟩ (Nat.le_of_ble_eq_true rfl) ⟨by decide, by decide⟩ (sp_A_isBelow l ?_)
  refine zr_if_ne C d_A_areMethodFlags_6 (n := 9) rfl (t := 11) (by decide) (fun c1 => ?_) (fun c1 => ?_)
  · replace c1 := zk_bn c1
    refine zr_iload_n C d_A_areMethodFlags_11 (n := 12) rfl rfl ?_
    refine zr_iconst C d_A_areMethodFlags_12 (n := 13) rfl (v := nI 2) (by decide) ?_
    refine zr_iand C d_A_areMethodFlags_13 (n := 14) rfl ?_
    refine zr_if_eq C d_A_areMethodFlags_14 (n := 17) rfl (t := 22) (by decide) (fun c2 => ?_) (fun c2 => ?_)
    · replace c2 := zb_nzf c2
      refine zr_iconst C d_A_areMethodFlags_22 (n := 23) rfl (v := nI 1) (by decide) ?_
      refine zr_goto C d_A_areMethodFlags_23 (t := 27) (by decide) ?_
      exact zr_zret C d_A_areMethodFlags_27 (by first | (simp [zc_mf, zk_b, c1, c2]; done) | simp_all [zc_mf, zk_b]) (by decide) hK (Nat.zero_le _) (Nat.zero_le _)
    · replace c2 := zb_nzt c2
      refine zr_iload_n C d_A_areMethodFlags_17 (n := 18) rfl rfl ?_
      refine zr_iconst C d_A_areMethodFlags_18 (n := 19) rfl (v := nI 2) (by decide) ?_
      refine zr_icmp_ne C d_A_areMethodFlags_19 (n := 22) rfl (t := 26) (by decide) (fun c3 => ?_) (fun c3 => ?_)
      · refine zr_iconst C d_A_areMethodFlags_26 (n := 27) rfl (v := nI 0) (by decide) ?_
        exact zr_zret C d_A_areMethodFlags_27 (by first | (simp [zc_mf, zk_b, c1, c2, c3]; done) | simp_all [zc_mf, zk_b]) (by decide) hK (Nat.zero_le _) (Nat.zero_le _)
      · refine zr_iconst C d_A_areMethodFlags_22 (n := 23) rfl (v := nI 1) (by decide) ?_
        refine zr_goto C d_A_areMethodFlags_23 (t := 27) (by decide) ?_
        exact zr_zret C d_A_areMethodFlags_27 (by first | (simp [zc_mf, zk_b, c1, c2, c3]; done) | simp_all [zc_mf, zk_b]) (by decide) hK (Nat.zero_le _) (Nat.zero_le _)
  · replace c1 := zk_bz c1
    refine zr_iconst C d_A_areMethodFlags_9 (n := 10) rfl (v := nI 0) (by decide) ?_
    exact zr_zret C d_A_areMethodFlags_10 (by first | (simp [zc_mf, zk_b, c1]; done) | simp_all [zc_mf, zk_b]) (by decide) hK (Nat.zero_le _) (Nat.zero_le _)
abbrev rm_A_offerOf : Room := { frames := 0, cells := 0, slots := 0, locals := 0 }
set_option maxHeartbeats 4000000 in
set_option maxRecDepth 100000 in
/-- offerOf -/
theorem sp_A_offerOf (l : Launch) {h : zk_H} {V : Nat → zo_O} {uk ut un : Nat → Nat} {ua : Nat → Int32} {uc : Nat} {B E : Nat → Int32} (hS : zc_at h V uk ut un ua uc B E) {v : Nat} (hv : v < 2) {K : Option Value → zk_H → Prop} (hK : K (some (.ref (9 * v + 1 + 1))) h) : zk_S l y_A_offerOf b_A_offerOf 2 (some (.object "ApiCompare$Offer")) rm_A_offerOf [.ref (0 + 1), .int (nI v)] h K := by
  refine zk_S_of R_A "offerOf" (by decide) rfl rfl [some (.ref (0 + 1)), some (.int (nI v))] 0 rfl (Nat.le_of_ble_eq_true rfl) (fun p e s m ar below meth c D dA b base C => ?_)
  rcases (show v = 0 ∨ v = 1 by omega) with rfl | rfl
  · refine zr_iload_n C d_A_offerOf_0 (n := 1) rfl rfl ?_
    refine zr_if_ne C d_A_offerOf_1 (n := 4) rfl (t := 11) (by decide) (fun c1 => ?_) (fun c1 => ?_)
    · exact absurd (by decide) c1
    · refine zr_aload_n C d_A_offerOf_4 (n := 5) rfl rfl ?_
      refine zr_get C f_A_12 d_A_offerOf_5 (n := 8) rfl hS.1 rfl ?_
      refine zr_goto C d_A_offerOf_8 (t := 15) (by decide) ?_
      exact zr_aret C d_A_offerOf_15 hK (Nat.zero_le _) (Nat.zero_le _)
  · refine zr_iload_n C d_A_offerOf_0 (n := 1) rfl rfl ?_
    refine zr_if_ne C d_A_offerOf_1 (n := 4) rfl (t := 11) (by decide) (fun c1 => ?_) (fun c1 => ?_)
    · refine zr_aload_n C d_A_offerOf_11 (n := 12) rfl rfl ?_
      refine zr_get C f_A_16 d_A_offerOf_12 (n := 15) rfl hS.1 rfl ?_
      exact zr_aret C d_A_offerOf_15 hK (Nat.zero_le _) (Nat.zero_le _)
    · exact absurd c1 (by decide)
def zc_tt (V : Nat → zo_O) (x y : Int32) : Bool := zc_bl x (nI 2) && zc_bl y (nI 6) && zo_th (V x.toNatClampNeg) y.toNatClampNeg
abbrev rm_A_isTypeThere : Room := { frames := 1, cells := 0, slots := 0, locals := 21 }
set_option maxHeartbeats 4000000 in
set_option maxRecDepth 100000 in
/-- isTypeThere -/
theorem sp_A_isTypeThere (l : Launch) {h : zk_H} {V : Nat → zo_O} {uk ut un : Nat → Nat} {ua : Nat → Int32} {uc : Nat} {B E : Nat → Int32} (hS : zc_at h V uk ut un ua uc B E) {x y : Int32} {K : Option Value → zk_H → Prop} (hK : K (some (.int (zk_b (zc_tt V x y)))) h) : zk_S l y_A_isTypeThere b_A_isTypeThere 3 (some .boolean) rm_A_isTypeThere [.ref (0 + 1), .int x, .int y] h K := by
  refine zk_S_of R_A "isTypeThere" (by decide) rfl rfl [some (.ref (0 + 1)), some (.int x), some (.int y)] 0 rfl (Nat.le_of_ble_eq_true rfl) (fun p e s m ar below meth c D dA b base C => ?_)
  refine zr_iload_n C d_A_isTypeThere_0 (n := 1) rfl rfl ?_
  refine zr_iconst C d_A_isTypeThere_1 (n := 2) rfl (v := nI 2) (by decide) ?_
  refine zr_callS2 C k_A_40 d_A_isTypeThere_2 (nx := 5) rfl ⟨by decide, by decide⟩ (Nat.le_of_ble_eq_true rfl) ⟨by decide, by decide⟩ (sp_A_isBelow l ?_)
  refine zr_if_eq C d_A_isTypeThere_5 (n := 8) rfl (t := 33) (by decide) (fun c1 => ?_) (fun c1 => ?_)
  · replace c1 := zk_bz c1
    refine zr_iconst C d_A_isTypeThere_33 (n := 34) rfl (v := nI 0) (by decide) ?_
    exact zr_zret C d_A_isTypeThere_34 (by simp [zc_tt, zk_b, c1]) (by decide) hK (Nat.zero_le _) (Nat.zero_le _)
  · replace c1 := zk_bn c1
    obtain ⟨v, hv, rfl, qv⟩ := zc_bl_n c1 (by decide)
    refine zr_iload_n C d_A_isTypeThere_8 (n := 9) rfl rfl ?_
    refine zr_bipush C d_A_isTypeThere_9 (n := 11) rfl (v := nI 6) (by decide) ?_
    refine zr_callS2 C k_A_40 d_A_isTypeThere_11 (nx := 14) rfl ⟨by decide, by decide⟩ (Nat.le_of_ble_eq_true rfl) ⟨by decide, by decide⟩ (sp_A_isBelow l ?_)
    refine zr_if_eq C d_A_isTypeThere_14 (n := 17) rfl (t := 33) (by decide) (fun c2 => ?_) (fun c2 => ?_)
    · replace c2 := zk_bz c2
      refine zr_iconst C d_A_isTypeThere_33 (n := 34) rfl (v := nI 0) (by decide) ?_
      exact zr_zret C d_A_isTypeThere_34 (by simp [zc_tt, zk_b, c1, c2]) (by decide) hK (Nat.zero_le _) (Nat.zero_le _)
    · replace c2 := zk_bn c2
      obtain ⟨t, ht, rfl, qt⟩ := zc_bl_n c2 (by decide)
      refine zr_aload_n C d_A_isTypeThere_17 (n := 18) rfl rfl ?_
      refine zr_iload_n C d_A_isTypeThere_18 (n := 19) rfl rfl ?_
      refine zr_callV1 C k_A_44 d_A_isTypeThere_19 (nx := 22) rfl hS.1 rfl ⟨by decide, by decide⟩ (Nat.le_of_ble_eq_true rfl) ⟨by decide, by decide⟩ (sp_A_offerOf l hS hv ?_)
      have hO := zc_o hS hv
      have ho := hO.1
      refine zr_iload_n C d_A_isTypeThere_22 (n := 23) rfl rfl ?_
      refine zr_callV1 C k_A_52 d_A_isTypeThere_23 (nx := 26) rfl ho rfl ⟨by decide, by decide⟩ (Nat.le_of_ble_eq_true rfl) ⟨by decide, by decide⟩ (sp_O_isThere l hO ht ?_)
      refine zr_if_eq C d_A_isTypeThere_26 (n := 29) rfl (t := 33) (by decide) (fun c3 => ?_) (fun c3 => ?_)
      · replace c3 := zk_bz c3
        refine zr_iconst C d_A_isTypeThere_33 (n := 34) rfl (v := nI 0) (by decide) ?_
        exact zr_zret C d_A_isTypeThere_34 (by simp [zc_tt, zk_b, qv, qt, c1, c2, c3]) (by decide) hK (Nat.zero_le _) (Nat.zero_le _)
      · replace c3 := zk_bn c3
        refine zr_iconst C d_A_isTypeThere_29 (n := 30) rfl (v := nI 1) (by decide) ?_
        refine zr_goto C d_A_isTypeThere_30 (t := 34) (by decide) ?_
        exact zr_zret C d_A_isTypeThere_34 (by simp [zc_tt, zk_b, qv, qt, c1, c2, c3]) (by decide) hK (Nat.zero_le _) (Nat.zero_le _)
