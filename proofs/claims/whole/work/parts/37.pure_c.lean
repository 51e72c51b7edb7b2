/-- field -/
theorem zm_J_field {V : Nat → zo_O} {S S' : zo_O} {us v t nm : Nat} {uk ut un : Nat → Nat} {ua : Nat → Int32} {kd fl x : Int32} (hJ : zm_J V S us uk ut un ua) (hv : v < 2) (ht : t < 6) (hnm : nm < 4) (hth : zo_th (V v) t = true) (hkd : kd = nI 0 ∨ kd = nI 1) (hfl : ¬ fl = -1) (h16 : zb_nz fl (nI 16) = true → zb_nz fl (nI 4) = true) (e4 : S' 4 = upd (S 4) (24 * v + (t * 4 + nm)) kd) (e5 : S' 5 = upd (S 5) (24 * v + (t * 4 + nm)) fl) (e6 : S' 6 = upd (S 6) (24 * v + (t * 4 + nm)) x) (e : ∀ i, i < 10 → i < 4 ∨ 6 < i → S' i = S i) : zm_J (zc_up V v (zc_pf (V v) (t * 4 + nm) kd fl x)) S' us uk ut un ua := by
  obtain ⟨r1, r2, r3⟩ := zm_J_r hJ hv
  have f0 := e 0 (by decide) (by decide)
  have f1 := e 1 (by decide) (by decide)
  have f2 := e 2 (by decide) (by decide)
  have f3 := e 3 (by decide) (by decide)
  have f7 := e 7 (by decide) (by decide)
  have f8 := e 8 (by decide) (by decide)
  have c1 : ∀ w, ∀ j, j < 6 → S' 0 (6 * w + j) = S 0 (6 * w + j) ∧ S' 1 (6 * w + j) = S 1 (6 * w + j) ∧ S' 2 (6 * w + j) = S 2 (6 * w + j) ∧ S' 3 (6 * w + j) = S 3 (6 * w + j) := fun w j _ => by rw [f0, f1, f2, f3]; exact ⟨rfl, rfl, rfl, rfl⟩
  have c3 : ∀ w, ∀ j, j < 72 → S' 7 (72 * w + j) = S 7 (72 * w + j) ∧ S' 8 (72 * w + j) = S 8 (72 * w + j) := fun w j _ => by rw [f7, f8]; exact ⟨rfl, rfl⟩
  have hnum : ∀ b, zb_nz fl (nI 16) = b → zo_fnum fl x = if b = true then x else nI 0 := by
    intro b hb
    unfold zo_fnum
    by_cases q : fl &&& nI 16 = 0
    · rw [if_pos q]
      have : b = false := by rw [← hb]; exact zb_nzf q
      rw [this]; rfl
    · rw [if_neg q]
      have : b = true := by rw [← hb]; exact zb_nzt q
      rw [this]; rfl
  refine zm_J_up hJ (zm_r1_c (fun _ _ => ⟨rfl, rfl, rfl⟩) (c1 v) r1) ?_ (zm_r3_c (fun _ _ => ⟨rfl, rfl⟩) (c3 v) r3) ?_ ?_ (fun w hw hn => ?_) (e 9 (by decide) (by decide))
  · intro j hj
    show (upd (V v 3) (t * 4 + nm) fl j = -1 → _) ∧ (¬ upd (V v 3) (t * 4 + nm) fl j = -1 → _ = upd (V v 4) (t * 4 + nm) kd j ∧ _ = upd (V v 3) (t * 4 + nm) fl j ∧ (zb_nz (upd (V v 3) (t * 4 + nm) fl j) _ = _ → _ = upd (V v 5) (t * 4 + nm) (zo_fnum fl x) j))
    rw [e4, e5, e6]
    by_cases q : j = t * 4 + nm
    · rw [q, pk_us, pk_us, pk_us, pk_us, pk_us, pk_us]
      exact ⟨fun n => absurd n hfl, fun _ => ⟨rfl, rfl, fun h => by rw [hnum true h, if_pos rfl]⟩⟩
    · rw [pk_un q, pk_un q, pk_un q, pk_un (by omega), pk_un (by omega), pk_un (by omega)]
      exact r2 j hj
  · have hok := hJ.2.1 v hv
    refine ⟨hok.1, hok.2.1, fun j hj q => ?_, hok.2.2.2⟩
    have q' : ¬ upd (V v 3) (t * 4 + nm) fl j = -1 := q
    show (upd (V v 4) (t * 4 + nm) kd j = nI 0 ∨ upd (V v 4) (t * 4 + nm) kd j = nI 1) ∧ (zb_nz (upd (V v 3) (t * 4 + nm) fl j) (nI 16) = false → upd (V v 5) (t * 4 + nm) (zo_fnum fl x) j = nI 0)
    by_cases q : j = t * 4 + nm
    · rw [q, pk_us, pk_us, pk_us]
      exact ⟨hkd, fun h => by rw [hnum false h]; rfl⟩
    · rw [pk_un q] at q'
      rw [pk_un q, pk_un q, pk_un q]
      exact hok.2.2.1 j hj q'
  · have hex := hJ.2.2.1 v hv
    refine ⟨fun j hj q => ?_, fun t' ht' q => ?_⟩
    · have q' : ¬ upd (V v 3) (t * 4 + nm) fl j = -1 := q
      show zb_nz (upd (V v 3) (t * 4 + nm) fl j) (nI 16) = true → zb_nz (upd (V v 3) (t * 4 + nm) fl j) (nI 4) = true
      by_cases q : j = t * 4 + nm
      · rw [q, pk_us]; exact h16
      · rw [pk_un q] at q' ⊢
        exact hex.1 j hj q'
    · have q' : V v 0 t' = -1 := q
      have hne : t' ≠ t := fun e9 => zo_thn hth (by rw [← e9]; exact q')
      obtain ⟨g1, g2⟩ := hex.2 t' ht' q'
      refine ⟨fun i hi => ?_, g2⟩
      show upd (V v 3) (t * 4 + nm) fl (t' * 4 + i) = -1
      rw [pk_un (by omega)]
      exact g1 i hi
  · obtain ⟨q1, q2, q3⟩ := zm_J_r hJ hw
    refine ⟨zm_r1_c (fun _ _ => ⟨rfl, rfl, rfl⟩) (c1 w) q1, zm_r2_c (fun _ _ => ⟨rfl, rfl, rfl⟩) (fun j hj => ?_) q2, zm_r3_c (fun _ _ => ⟨rfl, rfl⟩) (c3 w) q3⟩
    rw [e4, e5, e6]
    exact ⟨pk_un (by omega), pk_un (by omega), pk_un (by omega)⟩
/-- a field is cut -/
theorem zm_J_cutF {V : Nat → zo_O} {S S' : zo_O} {us v t nm : Nat} {uk ut un : Nat → Nat} {ua : Nat → Int32} (hJ : zm_J V S us uk ut un ua) (hv : v < 2) (ht : t < 6) (hnm : nm < 4) (e4 : S' 4 = upd (S 4) (24 * v + (t * 4 + nm)) (-1)) (e : ∀ i, i < 10 → i ≠ 4 → S' i = S i) : zm_J (zc_up V v (zc_rf (V v) (t * 4 + nm))) S' us uk ut un ua := by
  obtain ⟨r1, r2, r3⟩ := zm_J_r hJ hv
  have f0 := e 0 (by decide) (by decide)
  have f1 := e 1 (by decide) (by decide)
  have f2 := e 2 (by decide) (by decide)
  have f3 := e 3 (by decide) (by decide)
  have f5 := e 5 (by decide) (by decide)
  have f6 := e 6 (by decide) (by decide)
  have f7 := e 7 (by decide) (by decide)
  have f8 := e 8 (by decide) (by decide)
  have c1 : ∀ w, ∀ j, j < 6 → S' 0 (6 * w + j) = S 0 (6 * w + j) ∧ S' 1 (6 * w + j) = S 1 (6 * w + j) ∧ S' 2 (6 * w + j) = S 2 (6 * w + j) ∧ S' 3 (6 * w + j) = S 3 (6 * w + j) := fun w j _ => by rw [f0, f1, f2, f3]; exact ⟨rfl, rfl, rfl, rfl⟩
  have c3 : ∀ w, ∀ j, j < 72 → S' 7 (72 * w + j) = S 7 (72 * w + j) ∧ S' 8 (72 * w + j) = S 8 (72 * w + j) := fun w j _ => by rw [f7, f8]; exact ⟨rfl, rfl⟩
  refine zm_J_up hJ (zm_r1_c (fun _ _ => ⟨rfl, rfl, rfl⟩) (c1 v) r1) ?_ (zm_r3_c (fun _ _ => ⟨rfl, rfl⟩) (c3 v) r3) ?_ ?_ (fun w hw hn => ?_) (e 9 (by decide) (by decide))
  · intro j hj
    show (upd (V v 3) (t * 4 + nm) (-1) j = -1 → _) ∧ (¬ upd (V v 3) (t * 4 + nm) (-1) j = -1 → _ = V v 4 j ∧ _ = upd (V v 3) (t * 4 + nm) (-1) j ∧ (zb_nz (upd (V v 3) (t * 4 + nm) (-1) j) _ = _ → _ = V v 5 j))
    rw [e4, f5, f6]
    by_cases q : j = t * 4 + nm
    · rw [q, pk_us, pk_us]
      exact ⟨fun _ => rfl, fun n => absurd rfl n⟩
    · rw [pk_un q, pk_un (by omega)]
      exact r2 j hj
  · have hok := hJ.2.1 v hv
    refine ⟨hok.1, hok.2.1, fun j hj q => ?_, hok.2.2.2⟩
    have q' : ¬ upd (V v 3) (t * 4 + nm) (-1) j = -1 := q
    show _ ∧ (zb_nz (upd (V v 3) (t * 4 + nm) (-1) j) (nI 16) = false → _)
    by_cases q : j = t * 4 + nm
    · rw [q, pk_us] at q'; exact absurd rfl q'
    · rw [pk_un q] at q' ⊢
      exact hok.2.2.1 j hj q'
  · have hex := hJ.2.2.1 v hv
    refine ⟨fun j hj q => ?_, fun t' ht' q => ?_⟩
    · have q' : ¬ upd (V v 3) (t * 4 + nm) (-1) j = -1 := q
      show zb_nz (upd (V v 3) (t * 4 + nm) (-1) j) (nI 16) = true → zb_nz (upd (V v 3) (t * 4 + nm) (-1) j) (nI 4) = true
      by_cases q : j = t * 4 + nm
      · rw [q, pk_us] at q'; exact absurd rfl q'
      · rw [pk_un q] at q' ⊢
        exact hex.1 j hj q'
    · have q' : V v 0 t' = -1 := q
      obtain ⟨g1, g2⟩ := hex.2 t' ht' q'
      refine ⟨fun i hi => ?_, g2⟩
      show upd (V v 3) (t * 4 + nm) (-1) (t' * 4 + i) = -1
      by_cases q : t' * 4 + i = t * 4 + nm
      · rw [q, pk_us]
      · rw [pk_un q]; exact g1 i hi
  · obtain ⟨q1, q2, q3⟩ := zm_J_r hJ hw
    refine ⟨zm_r1_c (fun _ _ => ⟨rfl, rfl, rfl⟩) (c1 w) q1, zm_r2_c (fun _ _ => ⟨rfl, rfl, rfl⟩) (fun j hj => ?_) q2, zm_r3_c (fun _ _ => ⟨rfl, rfl⟩) (c3 w) q3⟩
    rw [e4, f5, f6]
    exact ⟨pk_un (by omega), rfl, rfl⟩
/-- method -/
theorem zm_J_meth {V : Nat → zo_O} {S S' : zo_O} {us v t i9 a : Nat} {uk ut un : Nat → Nat} {ua : Nat → Int32} {fl : Int32} (hJ : zm_J V S us uk ut un ua) (hv : v < 2) (ht : t < 6) (hi9 : i9 < 12) (hth : zo_th (V v) t = true) (ha : a < 4) (hfl : ¬ fl = -1) (e7 : S' 7 = upd (S 7) (72 * v + (t * 12 + i9)) (nI a)) (e8 : S' 8 = upd (S 8) (72 * v + (t * 12 + i9)) fl) (e : ∀ i, i < 10 → i ≠ 7 → i ≠ 8 → S' i = S i) : zm_J (zc_up V v (zc_pm (V v) (t * 12 + i9) (nI a) fl)) S' us uk ut un ua := by
  obtain ⟨r1, r2, r3⟩ := zm_J_r hJ hv
  have f0 := e 0 (by decide) (by decide) (by decide)
  have f1 := e 1 (by decide) (by decide) (by decide)
  have f2 := e 2 (by decide) (by decide) (by decide)
  have f3 := e 3 (by decide) (by decide) (by decide)
  have f4 := e 4 (by decide) (by decide) (by decide)
  have f5 := e 5 (by decide) (by decide) (by decide)
  have f6 := e 6 (by decide) (by decide) (by decide)
  have c1 : ∀ w, ∀ j, j < 6 → S' 0 (6 * w + j) = S 0 (6 * w + j) ∧ S' 1 (6 * w + j) = S 1 (6 * w + j) ∧ S' 2 (6 * w + j) = S 2 (6 * w + j) ∧ S' 3 (6 * w + j) = S 3 (6 * w + j) := fun w j _ => by rw [f0, f1, f2, f3]; exact ⟨rfl, rfl, rfl, rfl⟩
  have c2 : ∀ w, ∀ j, j < 24 → S' 4 (24 * w + j) = S 4 (24 * w + j) ∧ S' 5 (24 * w + j) = S 5 (24 * w + j) ∧ S' 6 (24 * w + j) = S 6 (24 * w + j) := fun w j _ => by rw [f4, f5, f6]; exact ⟨rfl, rfl, rfl⟩
  refine zm_J_up hJ (zm_r1_c (fun _ _ => ⟨rfl, rfl, rfl⟩) (c1 v) r1) (zm_r2_c (fun _ _ => ⟨rfl, rfl, rfl⟩) (c2 v) r2) ?_ ?_ ?_ (fun w hw hn => ?_) (e 9 (by decide) (by decide) (by decide))
  · intro j hj
    show (upd (V v 6) (t * 12 + i9) fl j = -1 → _) ∧ (¬ upd (V v 6) (t * 12 + i9) fl j = -1 → _ = upd (V v 7) (t * 12 + i9) (nI a) j ∧ _ = upd (V v 6) (t * 12 + i9) fl j)
    rw [e7, e8]
    by_cases q : j = t * 12 + i9
    · rw [q, pk_us, pk_us, pk_us, pk_us]
      exact ⟨fun n => absurd n hfl, fun _ => ⟨rfl, rfl⟩⟩
    · rw [pk_un q, pk_un q, pk_un (by omega), pk_un (by omega)]
      exact r3 j hj
  · have hok := hJ.2.1 v hv
    refine ⟨hok.1, hok.2.1, hok.2.2.1, fun j hj q => ?_⟩
    have q' : ¬ upd (V v 6) (t * 12 + i9) fl j = -1 := q
    show ∃ b, b < 4 ∧ upd (V v 7) (t * 12 + i9) (nI a) j = nI b
    by_cases q : j = t * 12 + i9
    · rw [q, pk_us]
      exact ⟨a, ha, rfl⟩
    · rw [pk_un q] at q' ⊢
      exact hok.2.2.2 j hj q'
  · have hex := hJ.2.2.1 v hv
    refine ⟨hex.1, fun t' ht' q => ?_⟩
    have q' : V v 0 t' = -1 := q
    have hne : t' ≠ t := fun e9 => zo_thn hth (by rw [← e9]; exact q')
    obtain ⟨g1, g2⟩ := hex.2 t' ht' q'
    refine ⟨g1, fun i hi => ?_⟩
    show upd (V v 6) (t * 12 + i9) fl (t' * 12 + i) = -1
    rw [pk_un (by omega)]
    exact g2 i hi
  · obtain ⟨q1, q2, q3⟩ := zm_J_r hJ hw
    refine ⟨zm_r1_c (fun _ _ => ⟨rfl, rfl, rfl⟩) (c1 w) q1, zm_r2_c (fun _ _ => ⟨rfl, rfl, rfl⟩) (c2 w) q2, zm_r3_c (fun _ _ => ⟨rfl, rfl⟩) (fun j hj => ?_) q3⟩
    rw [e7, e8]
    exact ⟨pk_un (by omega), pk_un (by omega)⟩
/-- a method is cut -/
theorem zm_J_cutM {V : Nat → zo_O} {S S' : zo_O} {us v t i9 : Nat} {uk ut un : Nat → Nat} {ua : Nat → Int32} (hJ : zm_J V S us uk ut un ua) (hv : v < 2) (ht : t < 6) (hi9 : i9 < 12) (e7 : S' 7 = upd (S 7) (72 * v + (t * 12 + i9)) (-1)) (e : ∀ i, i < 10 → i ≠ 7 → S' i = S i) : zm_J (zc_up V v (zc_rm (V v) (t * 12 + i9))) S' us uk ut un ua := by
  obtain ⟨r1, r2, r3⟩ := zm_J_r hJ hv
  have f0 := e 0 (by decide) (by decide)
  have f1 := e 1 (by decide) (by decide)
  have f2 := e 2 (by decide) (by decide)
  have f3 := e 3 (by decide) (by decide)
  have f4 := e 4 (by decide) (by decide)
  have f5 := e 5 (by decide) (by decide)
  have f6 := e 6 (by decide) (by decide)
  have f8 := e 8 (by decide) (by decide)
  have c1 : ∀ w, ∀ j, j < 6 → S' 0 (6 * w + j) = S 0 (6 * w + j) ∧ S' 1 (6 * w + j) = S 1 (6 * w + j) ∧ S' 2 (6 * w + j) = S 2 (6 * w + j) ∧ S' 3 (6 * w + j) = S 3 (6 * w + j) := fun w j _ => by rw [f0, f1, f2, f3]; exact ⟨rfl, rfl, rfl, rfl⟩
  have c2 : ∀ w, ∀ j, j < 24 → S' 4 (24 * w + j) = S 4 (24 * w + j) ∧ S' 5 (24 * w + j) = S 5 (24 * w + j) ∧ S' 6 (24 * w + j) = S 6 (24 * w + j) := fun w j _ => by rw [f4, f5, f6]; exact ⟨rfl, rfl, rfl⟩
  refine zm_J_up hJ (zm_r1_c (fun _ _ => ⟨rfl, rfl, rfl⟩) (c1 v) r1) (zm_r2_c (fun _ _ => ⟨rfl, rfl, rfl⟩) (c2 v) r2) ?_ ?_ ?_ (fun w hw hn => ?_) (e 9 (by decide) (by decide))
  · intro j hj
    show (upd (V v 6) (t * 12 + i9) (-1) j = -1 → _) ∧ (¬ upd (V v 6) (t * 12 + i9) (-1) j = -1 → _ = V v 7 j ∧ _ = upd (V v 6) (t * 12 + i9) (-1) j)
    rw [e7, f8]
    by_cases q : j = t * 12 + i9
    · rw [q, pk_us, pk_us]
      exact ⟨fun _ => rfl, fun n => absurd rfl n⟩
    · rw [pk_un q, pk_un (by omega)]
      exact r3 j hj
  · have hok := hJ.2.1 v hv
    refine ⟨hok.1, hok.2.1, hok.2.2.1, fun j hj q => ?_⟩
    have q' : ¬ upd (V v 6) (t * 12 + i9) (-1) j = -1 := q
    by_cases q : j = t * 12 + i9
    · rw [q, pk_us] at q'; exact absurd rfl q'
    · rw [pk_un q] at q'
      exact hok.2.2.2 j hj q'
  · have hex := hJ.2.2.1 v hv
    refine ⟨hex.1, fun t' ht' q => ?_⟩
    have q' : V v 0 t' = -1 := q
    obtain ⟨g1, g2⟩ := hex.2 t' ht' q'
    refine ⟨g1, fun i hi => ?_⟩
    show upd (V v 6) (t * 12 + i9) (-1) (t' * 12 + i) = -1
    by_cases q : t' * 12 + i = t * 12 + i9
    · rw [q, pk_us]
    · rw [pk_un q]; exact g2 i hi
  · obtain ⟨q1, q2, q3⟩ := zm_J_r hJ hw
    refine ⟨zm_r1_c (fun _ _ => ⟨rfl, rfl, rfl⟩) (c1 w) q1, zm_r2_c (fun _ _ => ⟨rfl, rfl, rfl⟩) (c2 w) q2, zm_r3_c (fun _ _ => ⟨rfl, rfl⟩) (fun j hj => ?_) q3⟩
    rw [e7, f8]
    exact ⟨pk_un (by omega), rfl⟩
/-- copy -/
theorem zm_J_copy {V : Nat → zo_O} {S S' : zo_O} {us : Nat} {uk ut un : Nat → Nat} {ua : Nat → Int32} (hJ : zm_J V S us uk ut un ua) (e1 : ∀ k, k < 4 → ∀ j, j < 6 → S' k j = S k j ∧ S' k (6 + j) = S k j) (e2 : ∀ k, 4 ≤ k → k < 7 → ∀ j, j < 24 → S' k j = S k j ∧ S' k (24 + j) = S k j) (e3 : ∀ k, 7 ≤ k → k < 9 → ∀ j, j < 72 → S' k j = S k j ∧ S' k (72 + j) = S k j) (e9 : S' 9 = S 9) : zm_J (zc_up V 1 (zc_cp (V 1) (V 0))) S' us uk ut un ua := by
  obtain ⟨r1, r2, r3⟩ := zm_J_r hJ (v := 0) (by decide)
  have a1 : ∀ t, t < 6 → zc_cp (V 1) (V 0) 0 t = V 0 0 t ∧ zc_cp (V 1) (V 0) 1 t = V 0 1 t ∧ zc_cp (V 1) (V 0) 2 t = V 0 2 t := fun t ht => ⟨sb_cpy0 ht, sb_cpy0 ht, sb_cpy0 ht⟩
  have a2 : ∀ t, t < 24 → zc_cp (V 1) (V 0) 3 t = V 0 3 t ∧ zc_cp (V 1) (V 0) 4 t = V 0 4 t ∧ zc_cp (V 1) (V 0) 5 t = V 0 5 t := fun t ht => ⟨sb_cpy0 ht, sb_cpy0 ht, sb_cpy0 ht⟩
  have a3 : ∀ t, t < 72 → zc_cp (V 1) (V 0) 6 t = V 0 6 t ∧ zc_cp (V 1) (V 0) 7 t = V 0 7 t := fun t ht => ⟨sb_cpy0 ht, sb_cpy0 ht⟩
  have z6 : ∀ t, 6 * 0 + t = t := fun t => by omega
  have z24 : ∀ t, 24 * 0 + t = t := fun t => by omega
  have z72 : ∀ t, 72 * 0 + t = t := fun t => by omega
  refine zm_J_up hJ (zm_r1_c (v := 0) a1 (fun t ht => ?_) r1) (zm_r2_c (v := 0) a2 (fun t ht => ?_) r2) (zm_r3_c (v := 0) a3 (fun t ht => ?_) r3) (zo_ok_e a1 a2 a3 (hJ.2.1 0 (by decide))) (zo_ex_e a1 a2 a3 (hJ.2.2.1 0 (by decide))) (fun w hw hn => ?_) e9
  · rw [z6]
    exact ⟨(e1 0 (by decide) t ht).2, (e1 1 (by decide) t ht).2, (e1 2 (by decide) t ht).2, (e1 3 (by decide) t ht).2⟩
  · rw [z24]
    exact ⟨(e2 4 (by decide) (by decide) t ht).2, (e2 5 (by decide) (by decide) t ht).2, (e2 6 (by decide) (by decide) t ht).2⟩
  · rw [z72]
    exact ⟨(e3 7 (by decide) (by decide) t ht).2, (e3 8 (by decide) (by decide) t ht).2⟩
  · have hw0 : w = 0 := by omega
    subst hw0
    refine ⟨zm_r1_c (fun _ _ => ⟨rfl, rfl, rfl⟩) (fun t ht => ?_) r1, zm_r2_c (fun _ _ => ⟨rfl, rfl, rfl⟩) (fun t ht => ?_) r2, zm_r3_c (fun _ _ => ⟨rfl, rfl⟩) (fun t ht => ?_) r3⟩
    · rw [z6]
      exact ⟨(e1 0 (by decide) t ht).1, (e1 1 (by decide) t ht).1, (e1 2 (by decide) t ht).1, (e1 3 (by decide) t ht).1⟩
    · rw [z24]
      exact ⟨(e2 4 (by decide) (by decide) t ht).1, (e2 5 (by decide) (by decide) t ht).1, (e2 6 (by decide) (by decide) t ht).1⟩
    · rw [z72]
      exact ⟨(e3 7 (by decide) (by decide) t ht).1, (e3 8 (by decide) (by decide) t ht).1⟩
/-- use -/
theorem zm_J_use {V : Nat → zo_O} {S S' : zo_O} {us k t nm : Nat} {uk ut un : Nat → Nat} {ua : Nat → Int32} {a : Int32} (hJ : zm_J V S us uk ut un ua) (hus : us < 16) (hk : k < 7) (ht : t < 6) (hnm : nm < 4) (hm : k = 2 ∨ k = 3 ∨ k = 6 → nm < 3 ∧ a = nI a.toNatClampNeg ∧ a.toNatClampNeg < 4) (e9 : S' 9 = upd (upd (upd (upd (S 9) (4 * us) (nI k)) (4 * us + 1) (nI t)) (4 * us + 2) (nI nm)) (4 * us + 3) a) (e : ∀ i, i < 9 → S' i = S i) : zm_J V S' (us + 1) (zc_fn true uk us k) (zc_fn true ut us t) (zc_fn true un us nm) (zc_fn true ua us a) := by
  refine ⟨?_, hJ.2.1, hJ.2.2.1, ?_, by omega, ?_⟩
  · unfold zm_R
    rw [e 0 (by decide), e 1 (by decide), e 2 (by decide), e 3 (by decide), e 4 (by decide), e 5 (by decide), e 6 (by decide), e 7 (by decide), e 8 (by decide)]
    exact hJ.1
  · intro j hj
    rw [zc_fn_1, zc_fn_1, zc_fn_1, zc_fn_1]
    dsimp only
    by_cases q : j = us
    · rw [if_pos q, if_pos q, if_pos q, if_pos q]
      exact ⟨hk, ht, hnm, hm⟩
    · rw [if_neg q, if_neg q, if_neg q, if_neg q]
      exact hJ.2.2.2.1 j (by omega)
  · intro j hj
    rw [zc_fn_1, zc_fn_1, zc_fn_1, zc_fn_1, e9]
    dsimp only
    by_cases q : j = us
    · subst q
      rw [if_pos rfl, if_pos rfl, if_pos rfl, if_pos rfl]
      refine ⟨?_, ?_, ?_, pk_us⟩
      · rw [pk_un (by omega), pk_un (by omega), pk_un (by omega), pk_us]
      · rw [pk_un (by omega), pk_un (by omega), pk_us]
      · rw [pk_un (by omega), pk_us]
    · rw [if_neg q, if_neg q, if_neg q, if_neg q]
      obtain ⟨g0, g1, g2, g3⟩ := hJ.2.2.2.2.2 j (by omega)
      refine ⟨?_, ?_, ?_, ?_⟩ <;> rw [pk_un (by omega), pk_un (by omega), pk_un (by omega), pk_un (by omega)]
      · exact g0
      · exact g1
      · exact g2
      · exact g3
/-- a new object -/
theorem zm_J_ini {V : Nat → zo_O} {S : zo_O} (h0 : zo_ini (V 0)) (h1 : zo_ini (V 1)) (e0 : ∀ j, j < 12 → S 0 j = 0) (e4 : ∀ j, j < 48 → S 4 j = -1) (e7 : ∀ j, j < 144 → S 7 j = -1) : zm_J V S 0 (fun _ => 0) (fun _ => 0) (fun _ => 0) (fun _ => 0) := by
  have hi : ∀ v, v < 2 → zo_ini (V v) := fun v hv => by
    rcases (show v = 0 ∨ v = 1 by omega) with rfl | rfl
    · exact h0
    · exact h1
  refine ⟨fun v hv => ⟨fun t ht => ?_, fun j hj => ⟨fun _ => e4 _ (by omega), fun n => absurd ((hi v hv).2.1 j hj) n⟩, fun j hj => ⟨fun _ => e7 _ (by omega), fun n => absurd ((hi v hv).2.2 j hj) n⟩⟩, fun v hv => ?_, fun v hv => ?_, fun j hj => absurd hj (by omega), by omega, fun j hj => absurd hj (by omega)⟩
  · have th : zo_th (V v) t = false := decide_eq_false (fun n => n ((hi v hv).1 t ht).1)
    rw [th, e0 _ (by omega)]
    exact ⟨rfl, fun h => absurd h (by decide)⟩
  · exact ⟨fun t ht _ => ((hi v hv).1 t ht).2, fun t ht n => absurd ((hi v hv).1 t ht).1 n, fun j hj n => absurd ((hi v hv).2.1 j hj) n, fun j hj n => absurd ((hi v hv).2.2 j hj) n⟩
  · exact ⟨fun j hj n => absurd ((hi v hv).2.1 j hj) n, fun t ht _ => ⟨fun i hi4 => (hi v hv).2.1 _ (by omega), fun i hi4 => (hi v hv).2.2 _ (by omega)⟩⟩
