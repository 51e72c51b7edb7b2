/-! what the writing calls keep -/
def zm_r1 (O S : zo_O) (v : Nat) : Prop := ∀ t, t < 6 → S 0 (6 * v + t) = zk_b (zo_th O t) ∧ (zo_th O t = true → S 1 (6 * v + t) = O 0 t ∧ S 2 (6 * v + t) = O 1 t ∧ S 3 (6 * v + t) = O 2 t)
def zm_r2 (O S : zo_O) (v : Nat) : Prop := ∀ j, j < 24 → (O 3 j = -1 → S 4 (24 * v + j) = -1) ∧ (¬ O 3 j = -1 → S 4 (24 * v + j) = O 4 j ∧ S 5 (24 * v + j) = O 3 j ∧ (zb_nz (O 3 j) (nI 16) = true → S 6 (24 * v + j) = O 5 j))
def zm_r3 (O S : zo_O) (v : Nat) : Prop := ∀ j, j < 72 → (O 6 j = -1 → S 7 (72 * v + j) = -1) ∧ (¬ O 6 j = -1 → S 7 (72 * v + j) = O 7 j ∧ S 8 (72 * v + j) = O 6 j)
theorem zo_th_e {O O' : zo_O} {t : Nat} (h : O' 0 t = O 0 t) : zo_th O' t = zo_th O t := by rw [zo_th, zo_th, h]
theorem zm_r1_c {O O' S S' : zo_O} {v w : Nat} (a : ∀ t, t < 6 → O' 0 t = O 0 t ∧ O' 1 t = O 1 t ∧ O' 2 t = O 2 t) (b : ∀ t, t < 6 → S' 0 (6 * w + t) = S 0 (6 * v + t) ∧ S' 1 (6 * w + t) = S 1 (6 * v + t) ∧ S' 2 (6 * w + t) = S 2 (6 * v + t) ∧ S' 3 (6 * w + t) = S 3 (6 * v + t)) (h : zm_r1 O S v) : zm_r1 O' S' w := fun t ht => by
  obtain ⟨a0, a1, a2⟩ := a t ht
  obtain ⟨b0, b1, b2, b3⟩ := b t ht
  rw [zo_th_e a0, a0, a1, a2, b0, b1, b2, b3]
  exact h t ht
theorem zm_r2_c {O O' S S' : zo_O} {v w : Nat} (a : ∀ j, j < 24 → O' 3 j = O 3 j ∧ O' 4 j = O 4 j ∧ O' 5 j = O 5 j) (b : ∀ j, j < 24 → S' 4 (24 * w + j) = S 4 (24 * v + j) ∧ S' 5 (24 * w + j) = S 5 (24 * v + j) ∧ S' 6 (24 * w + j) = S 6 (24 * v + j)) (h : zm_r2 O S v) : zm_r2 O' S' w := fun j hj => by
  obtain ⟨a0, a1, a2⟩ := a j hj
  obtain ⟨b0, b1, b2⟩ := b j hj
  rw [a0, a1, a2, b0, b1, b2]
  exact h j hj
theorem zm_r3_c {O O' S S' : zo_O} {v w : Nat} (a : ∀ j, j < 72 → O' 6 j = O 6 j ∧ O' 7 j = O 7 j) (b : ∀ j, j < 72 → S' 7 (72 * w + j) = S 7 (72 * v + j) ∧ S' 8 (72 * w + j) = S 8 (72 * v + j)) (h : zm_r3 O S v) : zm_r3 O' S' w := fun j hj => by
  obtain ⟨a0, a1⟩ := a j hj
  obtain ⟨b0, b1⟩ := b j hj
  rw [a0, a1, b0, b1]
  exact h j hj
theorem zo_ok_e {O O' : zo_O} (a : ∀ t, t < 6 → O' 0 t = O 0 t ∧ O' 1 t = O 1 t ∧ O' 2 t = O 2 t) (b : ∀ j, j < 24 → O' 3 j = O 3 j ∧ O' 4 j = O 4 j ∧ O' 5 j = O 5 j) (c : ∀ j, j < 72 → O' 6 j = O 6 j ∧ O' 7 j = O 7 j) (h : zo_ok O) : zo_ok O' := by
  refine ⟨fun t ht q => ?_, fun t ht q => ?_, fun j hj q => ?_, fun j hj q => ?_⟩
  · rw [(a t ht).1] at q
    rw [(a t ht).2.1, (a t ht).2.2]
    exact h.1 t ht q
  · rw [(a t ht).1] at q
    rw [(a t ht).2.1, (a t ht).2.2]
    obtain ⟨h1, h2⟩ := h.2.1 t ht q
    refine ⟨h1.imp id ?_, fun i hi hb => ?_⟩
    · rintro ⟨s, hs, e, hn⟩
      exact ⟨s, hs, e, by rw [(a s (by omega)).1]; exact hn⟩
    · obtain ⟨g1, g2⟩ := h2 i hi hb
      exact ⟨g1, by rw [(a i (by omega)).1]; exact g2⟩
  · rw [(b j hj).1] at q ⊢
    rw [(b j hj).2.1, (b j hj).2.2]
    exact h.2.2.1 j hj q
  · rw [(c j hj).1] at q
    rw [(c j hj).2]
    exact h.2.2.2 j hj q
theorem zo_ex_e {O O' : zo_O} (a : ∀ t, t < 6 → O' 0 t = O 0 t ∧ O' 1 t = O 1 t ∧ O' 2 t = O 2 t) (b : ∀ j, j < 24 → O' 3 j = O 3 j ∧ O' 4 j = O 4 j ∧ O' 5 j = O 5 j) (c : ∀ j, j < 72 → O' 6 j = O 6 j ∧ O' 7 j = O 7 j) (h : zo_ex O) : zo_ex O' := by
  refine ⟨fun j hj q => ?_, fun t ht q => ?_⟩
  · rw [(b j hj).1] at q ⊢
    exact h.1 j hj q
  · rw [(a t ht).1] at q
    obtain ⟨g1, g2⟩ := h.2 t ht q
    exact ⟨fun i hi => by rw [(b _ (by omega)).1]; exact g1 i hi, fun i hi => by rw [(c _ (by omega)).1]; exact g2 i hi⟩
/-- the offer of one version is written anew -/
theorem zm_J_up {V : Nat → zo_O} {S S' O : zo_O} {us v : Nat} {uk ut un : Nat → Nat} {ua : Nat → Int32} (hJ : zm_J V S us uk ut un ua) (h1 : zm_r1 O S' v) (h2 : zm_r2 O S' v) (h3 : zm_r3 O S' v) (hk : zo_ok O) (hx : zo_ex O) (g : ∀ w, w < 2 → w ≠ v → zm_r1 (V w) S' w ∧ zm_r2 (V w) S' w ∧ zm_r3 (V w) S' w) (h9 : S' 9 = S 9) : zm_J (zc_up V v O) S' us uk ut un ua := by
  refine ⟨fun w hw => ?_, fun w hw => ?_, fun w hw => ?_, hJ.2.2.2.1, hJ.2.2.2.2.1, by rw [h9]; exact hJ.2.2.2.2.2⟩
  · by_cases q : w = v
    · subst q
      rw [zc_up, if_pos rfl]
      exact ⟨h1, h2, h3⟩
    · rw [zc_up, if_neg q]
      exact g w hw q
  · by_cases q : w = v
    · rw [zc_up, if_pos q]; exact hk
    · rw [zc_up, if_neg q]; exact hJ.2.1 w hw
  · by_cases q : w = v
    · rw [zc_up, if_pos q]; exact hx
    · rw [zc_up, if_neg q]; exact hJ.2.2.1 w hw
theorem zm_J_r {V : Nat → zo_O} {S : zo_O} {us v : Nat} {uk ut un : Nat → Nat} {ua : Nat → Int32} (hJ : zm_J V S us uk ut un ua) (hv : v < 2) : zm_r1 (V v) S v ∧ zm_r2 (V v) S v ∧ zm_r3 (V v) S v := hJ.1 v hv
/-- type -/
theorem zo_cnL_all {O : zo_O} {t : Nat} {x : Int32} : ∀ n j, zo_cnL O t x n j = true → ∀ i, j ≤ i → i < j + n → zk_bit x i = true → i < t ∧ zo_hf O i (nI 1) = true
  | 0, _, _, i, h1, h2, _ => absurd h2 (by omega)
  | n + 1, j, h, i, h1, h2, hb => by
    rw [zo_cnL] at h
    by_cases q : zk_bit x j = true ∧ ¬ (j < t ∧ zo_hf O j (nI 1) = true)
    · rw [if_pos q] at h; cases h
    · rw [if_neg q] at h
      by_cases e : i = j
      · subst e
        exact Classical.byContradiction fun n => q ⟨hb, n⟩
      · exact zo_cnL_all n (j + 1) h i (by omega) (by omega) hb
theorem zo_cn_i {O : zo_O} {t sp : Nat} {x : Int32} (h : zo_cn O t sp x = true) : (sp = 6 ∨ (sp < t ∧ zo_th O sp = true)) ∧ ∀ i, i < 6 → zk_bit x i = true → i < t ∧ zo_th O i = true := by
  unfold zo_cn at h
  by_cases q : ¬ sp = 6 ∧ ¬ (sp < t ∧ zo_th O sp = true ∧ zo_hf O sp (nI 1) = false)
  · rw [if_pos q] at h; cases h
  · rw [if_neg q] at h
    refine ⟨?_, fun i hi hb => ?_⟩
    · by_cases e : sp = 6
      · exact Or.inl e
      · have r := Classical.byContradiction fun n => q ⟨e, n⟩
        exact Or.inr ⟨r.1, r.2.1⟩
    · have r := zo_cnL_all 6 0 h i (Nat.zero_le i) (by omega) hb
      exact ⟨r.1, zo_hf_t r.2⟩
theorem zk_b64 : ∀ k, k < 64 → ∀ i, i < 32 → 6 ≤ i → zk_bit (nI k) i = false := by decide +kernel
theorem zo_ok_pt {O : zo_O} {t sp k : Nat} {x : Int32} (hok : zo_ok O) (ht : t < 6) (hx : ¬ x = -1) (hk : k < 64) (hc : zo_cn O t sp (nI k) = true) : zo_ok (zc_pt O t x (nI sp) (nI k)) := by
  obtain ⟨hs, hb⟩ := zo_cn_i hc
  have key : ∀ s, s < 6 → ¬ O 0 s = -1 → ¬ zc_pt O t x (nI sp) (nI k) 0 s = -1 := by
    intro s hs6 h
    show ¬ upd (O 0) t x s = -1
    by_cases q : s = t
    · rw [q, pk_us]; exact hx
    · rw [pk_un q]; exact h
  refine ⟨fun t' ht' q => ?_, fun t' ht' q => ?_, hok.2.2.1, hok.2.2.2⟩
  · have q' : upd (O 0) t x t' = -1 := q
    by_cases e : t' = t
    · rw [e, pk_us] at q'; exact absurd q' hx
    · rw [pk_un e] at q'
      show upd (O 1) t _ t' = _ ∧ upd (O 2) t _ t' = _
      rw [pk_un e, pk_un e]
      exact hok.1 t' ht' q'
  · have q' : ¬ upd (O 0) t x t' = -1 := q
    show (upd (O 1) t (nI sp) t' = nI 6 ∨ ∃ s, s < t' ∧ upd (O 1) t (nI sp) t' = nI s ∧ ¬ zc_pt O t x (nI sp) (nI k) 0 s = -1) ∧ ∀ i, i < 32 → zk_bit (upd (O 2) t (nI k) t') i = true → i < t' ∧ ¬ zc_pt O t x (nI sp) (nI k) 0 i = -1
    by_cases e : t' = t
    · subst e
      rw [pk_us, pk_us]
      refine ⟨?_, fun i hi hbi => ?_⟩
      · rcases hs with e6 | ⟨h1, h2⟩
        · exact Or.inl (by rw [e6])
        · exact Or.inr ⟨sp, h1, rfl, key sp (by omega) (zo_thn h2)⟩
      · by_cases h6 : i < 6
        · obtain ⟨g1, g2⟩ := hb i h6 hbi
          exact ⟨g1, key i h6 (zo_thn g2)⟩
        · rw [zk_b64 k hk i hi (by omega)] at hbi; cases hbi
    · rw [pk_un e] at q'
      rw [pk_un e, pk_un e]
      obtain ⟨g1, g2⟩ := hok.2.1 t' ht' q'
      refine ⟨g1.imp id ?_, fun i hi hbi => ?_⟩
      · rintro ⟨s, h1, h2, h3⟩
        exact ⟨s, h1, h2, key s (by omega) h3⟩
      · obtain ⟨h1, h2⟩ := g2 i hi hbi
        exact ⟨h1, key i (by omega) h2⟩
theorem zo_ex_pt {O : zo_O} {t : Nat} {x y z : Int32} (hex : zo_ex O) (hx : ¬ x = -1) : zo_ex (zc_pt O t x y z) := by
  refine ⟨hex.1, fun t' ht' q => ?_⟩
  have q' : upd (O 0) t x t' = -1 := q
  by_cases e : t' = t
  · rw [e, pk_us] at q'; exact absurd q' hx
  · rw [pk_un e] at q'
    exact hex.2 t' ht' q'
theorem zm_r1_pt {O S S' : zo_O} {v t : Nat} {x y z : Int32} (h : zm_r1 O S v) (hx : ¬ x = -1) (e0 : S' 0 = upd (S 0) (6 * v + t) (nI 1)) (e1 : S' 1 = upd (S 1) (6 * v + t) x) (e2 : S' 2 = upd (S 2) (6 * v + t) y) (e3 : S' 3 = upd (S 3) (6 * v + t) z) : zm_r1 (zc_pt O t x y z) S' v := fun t' ht' => by
  rw [e0, e1, e2, e3]
  by_cases q : t' = t
  · subst q
    have th : zo_th (zc_pt O t' x y z) t' = true := decide_eq_true (by show ¬ upd (O 0) t' x t' = -1; rw [pk_us]; exact hx)
    rw [th, pk_us, pk_us, pk_us, pk_us]
    exact ⟨rfl, fun _ => ⟨pk_us.symm, pk_us.symm, pk_us.symm⟩⟩
  · have th : zo_th (zc_pt O t x y z) t' = zo_th O t' := zo_th_e (by show upd (O 0) t x t' = _; rw [pk_un q])
    rw [th, pk_un (by omega), pk_un (by omega), pk_un (by omega), pk_un (by omega)]
    show _ ∧ (_ → _ = upd (O 0) t x t' ∧ _ = upd (O 1) t y t' ∧ _ = upd (O 2) t z t')
    rw [pk_un q, pk_un q, pk_un q]
    exact h t' ht'
theorem zm_J_type {V : Nat → zo_O} {S S' : zo_O} {us v t sp k : Nat} {uk ut un : Nat → Nat} {ua : Nat → Int32} {x : Int32} (hJ : zm_J V S us uk ut un ua) (hv : v < 2) (ht : t < 6) (hx : ¬ x = -1) (hk : k < 64) (hc : zo_cn (V v) t sp (nI k) = true) (e0 : S' 0 = upd (S 0) (6 * v + t) (nI 1)) (e1 : S' 1 = upd (S 1) (6 * v + t) x) (e2 : S' 2 = upd (S 2) (6 * v + t) (nI sp)) (e3 : S' 3 = upd (S 3) (6 * v + t) (nI k)) (e : ∀ i, 4 ≤ i → i < 10 → S' i = S i) : zm_J (zc_up V v (zc_pt (V v) t x (nI sp) (nI k))) S' us uk ut un ua := by
  obtain ⟨r1, r2, r3⟩ := zm_J_r hJ hv
  have c2 : ∀ w, ∀ j, j < 24 → S' 4 (24 * w + j) = S 4 (24 * w + j) ∧ S' 5 (24 * w + j) = S 5 (24 * w + j) ∧ S' 6 (24 * w + j) = S 6 (24 * w + j) := fun w j _ => by rw [e 4 (by decide) (by decide), e 5 (by decide) (by decide), e 6 (by decide) (by decide)]; exact ⟨rfl, rfl, rfl⟩
  have c3 : ∀ w, ∀ j, j < 72 → S' 7 (72 * w + j) = S 7 (72 * w + j) ∧ S' 8 (72 * w + j) = S 8 (72 * w + j) := fun w j _ => by rw [e 7 (by decide) (by decide), e 8 (by decide) (by decide)]; exact ⟨rfl, rfl⟩
  refine zm_J_up hJ (zm_r1_pt r1 hx e0 e1 e2 e3) (zm_r2_c (fun _ _ => ⟨rfl, rfl, rfl⟩) (c2 v) r2) (zm_r3_c (fun _ _ => ⟨rfl, rfl⟩) (c3 v) r3) (zo_ok_pt (hJ.2.1 v hv) ht hx hk hc) (zo_ex_pt (hJ.2.2.1 v hv) hx) (fun w hw hn => ?_) (e 9 (by decide) (by decide))
  obtain ⟨q1, q2, q3⟩ := zm_J_r hJ hw
  refine ⟨zm_r1_c (fun _ _ => ⟨rfl, rfl, rfl⟩) (fun j hj => ?_) q1, zm_r2_c (fun _ _ => ⟨rfl, rfl, rfl⟩) (c2 w) q2, zm_r3_c (fun _ _ => ⟨rfl, rfl⟩) (c3 w) q3⟩
  rw [e0, e1, e2, e3]
  exact ⟨pk_un (by omega), pk_un (by omega), pk_un (by omega), pk_un (by omega)⟩
/-- drop -/
theorem zo_nmL_all {O : zo_O} {t : Nat} : ∀ n j, zo_nmL O t n j = false → ∀ i, j ≤ i → i < j + n → ¬ (zo_th O i = true ∧ (O 1 i = nI t ∨ zk_bit (O 2 i) t = true))
  | 0, _, _, i, h1, h2 => absurd h2 (by omega)
  | n + 1, j, h, i, h1, h2 => by
    rw [zo_nmL] at h
    by_cases q : zo_th O j = true ∧ (O 1 j = nI t ∨ zk_bit (O 2 j) t = true)
    · rw [if_pos q] at h; cases h
    · rw [if_neg q] at h
      by_cases e : i = j
      · rw [e]; exact q
      · exact zo_nmL_all n (j + 1) h i (by omega) (by omega)
theorem zo_cl_in {s : Nat} : ∀ n j (f : Nat → Int32) i, s + j ≤ i → i < s + j + n → zo_cl s n j f i = -1
  | 0, _, _, _, h1, h2 => absurd h2 (by omega)
  | n + 1, j, f, i, h1, h2 => by
    rw [zo_cl]
    by_cases e : i = s + j
    · by_cases hn : n = 0
      · subst hn
        show upd f (s + j) (-1) i = -1
        rw [e, pk_us]
      · clear h2
        have out : ∀ n j (f : Nat → Int32) i, i < s + j → zo_cl s n j f i = f i := by
          intro n
          induction n with
          | zero => intro j f i hi; rfl
          | succ n ih => intro j f i hi; rw [zo_cl, ih (j + 1) _ i (by omega), pk_un (by omega)]
        rw [out n (j + 1) _ i (by omega), e, pk_us]
    · exact zo_cl_in n (j + 1) _ i (by omega) (by omega)
theorem zo_cl_out {s : Nat} : ∀ n j (f : Nat → Int32) i, i < s + j ∨ s + j + n ≤ i → zo_cl s n j f i = f i
  | 0, _, _, _, _ => rfl
  | n + 1, j, f, i, h => by
    rw [zo_cl, zo_cl_out n (j + 1) _ i (by omega), pk_un (by omega)]
theorem zo_ok_rt {O : zo_O} {t : Nat} (hok : zo_ok O) (ht : t < 6) (hn : zo_nmL O t 6 0 = false) : zo_ok (zc_rt O t) := by
  have nn := zo_nmL_all 6 0 hn
  refine ⟨fun t' ht' q => ?_, fun t' ht' q => ?_, fun j hj q => ?_, fun j hj q => ?_⟩
  · have q' : upd (O 0) t (-1) t' = -1 := q
    show upd (O 1) t (nI 6) t' = nI 6 ∧ upd (O 2) t (nI 0) t' = nI 0
    by_cases e : t' = t
    · rw [e, pk_us, pk_us]; exact ⟨rfl, rfl⟩
    · rw [pk_un e] at q'
      rw [pk_un e, pk_un e]
      exact hok.1 t' ht' q'
  · have q' : ¬ upd (O 0) t (-1) t' = -1 := q
    show (upd (O 1) t (nI 6) t' = nI 6 ∨ ∃ s, s < t' ∧ upd (O 1) t (nI 6) t' = nI s ∧ ¬ upd (O 0) t (-1) s = -1) ∧ ∀ i, i < 32 → zk_bit (upd (O 2) t (nI 0) t') i = true → i < t' ∧ ¬ upd (O 0) t (-1) i = -1
    by_cases e : t' = t
    · rw [e, pk_us] at q'; exact absurd rfl q'
    · rw [pk_un e] at q'
      rw [pk_un e, pk_un e]
      obtain ⟨g1, g2⟩ := hok.2.1 t' ht' q'
      have nt := nn t' (Nat.zero_le _) (by omega)
      refine ⟨g1.imp id ?_, fun i hi hbi => ?_⟩
      · rintro ⟨s, h1, h2, h3⟩
        have hs : s ≠ t := fun e => nt ⟨decide_eq_true q', Or.inl (by rw [h2, e])⟩
        exact ⟨s, h1, h2, by rw [pk_un hs]; exact h3⟩
      · obtain ⟨h1, h2⟩ := g2 i hi hbi
        have hs : i ≠ t := fun e => nt ⟨decide_eq_true q', Or.inr (by rw [← e]; exact hbi)⟩
        exact ⟨h1, by rw [pk_un hs]; exact h2⟩
  · have q' : ¬ zo_cl (t * 4) 4 0 (O 3) j = -1 := q
    by_cases e : t * 4 ≤ j ∧ j < t * 4 + 4
    · exact absurd (zo_cl_in 4 0 _ j (by omega) (by omega)) q'
    · show _ ∧ (zb_nz (zo_cl (t * 4) 4 0 (O 3) j) _ = _ → _)
      rw [zo_cl_out 4 0 _ j (by omega)] at q' ⊢
      exact hok.2.2.1 j hj q'
  · have q' : ¬ zo_cl (t * 12) 12 0 (O 6) j = -1 := q
    by_cases e : t * 12 ≤ j ∧ j < t * 12 + 12
    · exact absurd (zo_cl_in 12 0 _ j (by omega) (by omega)) q'
    · rw [zo_cl_out 12 0 _ j (by omega)] at q'
      exact hok.2.2.2 j hj q'
theorem zo_ex_rt {O : zo_O} {t : Nat} (hex : zo_ex O) : zo_ex (zc_rt O t) := by
  refine ⟨fun j hj q => ?_, fun t' ht' q => ?_⟩
  · have q' : ¬ zo_cl (t * 4) 4 0 (O 3) j = -1 := q
    by_cases e : t * 4 ≤ j ∧ j < t * 4 + 4
    · exact absurd (zo_cl_in 4 0 _ j (by omega) (by omega)) q'
    · show zb_nz (zo_cl (t * 4) 4 0 (O 3) j) _ = _ → zb_nz (zo_cl (t * 4) 4 0 (O 3) j) _ = _
      rw [zo_cl_out 4 0 _ j (by omega)] at q' ⊢
      exact hex.1 j hj q'
  · have q' : upd (O 0) t (-1) t' = -1 := q
    show (∀ i, i < 4 → zo_cl (t * 4) 4 0 (O 3) (t' * 4 + i) = -1) ∧ (∀ i, i < 12 → zo_cl (t * 12) 12 0 (O 6) (t' * 12 + i) = -1)
    by_cases e : t' = t
    · subst e
      exact ⟨fun i hi => zo_cl_in 4 0 _ _ (by omega) (by omega), fun i hi => zo_cl_in 12 0 _ _ (by omega) (by omega)⟩
    · rw [pk_un e] at q'
      obtain ⟨g1, g2⟩ := hex.2 t' ht' q'
      exact ⟨fun i hi => by rw [zo_cl_out 4 0 _ _ (by omega)]; exact g1 i hi, fun i hi => by rw [zo_cl_out 12 0 _ _ (by omega)]; exact g2 i hi⟩
theorem zm_J_drop {V : Nat → zo_O} {S S' : zo_O} {us v t : Nat} {uk ut un : Nat → Nat} {ua : Nat → Int32} (hJ : zm_J V S us uk ut un ua) (hv : v < 2) (ht : t < 6) (hn : zo_nmL (V v) t 6 0 = false) (e0 : S' 0 = upd (S 0) (6 * v + t) (nI 0)) (e4 : ∀ i, S' 4 i = if 4 * (6 * v + t) ≤ i ∧ i < 4 * (6 * v + t) + 4 then -1 else S 4 i) (e7 : ∀ i, S' 7 i = if 12 * (6 * v + t) ≤ i ∧ i < 12 * (6 * v + t) + 12 then -1 else S 7 i) (e : ∀ i, i < 10 → i ≠ 0 → i ≠ 4 → i ≠ 7 → S' i = S i) : zm_J (zc_up V v (zc_rt (V v) t)) S' us uk ut un ua := by
  obtain ⟨r1, r2, r3⟩ := zm_J_r hJ hv
  have f1 := e 1 (by decide) (by decide) (by decide) (by decide)
  have f2 := e 2 (by decide) (by decide) (by decide) (by decide)
  have f3 := e 3 (by decide) (by decide) (by decide) (by decide)
  have f5 := e 5 (by decide) (by decide) (by decide) (by decide)
  have f6 := e 6 (by decide) (by decide) (by decide) (by decide)
  have f8 := e 8 (by decide) (by decide) (by decide) (by decide)
  refine zm_J_up hJ ?_ ?_ ?_ (zo_ok_rt (hJ.2.1 v hv) ht hn) (zo_ex_rt (hJ.2.2.1 v hv)) (fun w hw hn => ?_) (e 9 (by decide) (by decide) (by decide) (by decide))
  · intro t' ht'
    rw [e0, f1, f2, f3]
    by_cases q : t' = t
    · subst q
      have th : zo_th (zc_rt (V v) t') t' = false := decide_eq_false (fun n => n (by show upd (V v 0) t' (-1) t' = -1; rw [pk_us]))
      rw [th, pk_us]
      exact ⟨rfl, fun h => absurd h (by decide)⟩
    · have th : zo_th (zc_rt (V v) t) t' = zo_th (V v) t' := zo_th_e (by show upd (V v 0) t (-1) t' = _; rw [pk_un q])
      rw [th, pk_un (by omega)]
      show _ ∧ (_ → _ = upd (V v 0) t (-1) t' ∧ _ = upd (V v 1) t (nI 6) t' ∧ _ = upd (V v 2) t (nI 0) t')
      rw [pk_un q, pk_un q, pk_un q]
      exact r1 t' ht'
  · intro j hj
    show (zo_cl (t * 4) 4 0 (V v 3) j = -1 → _) ∧ (¬ zo_cl (t * 4) 4 0 (V v 3) j = -1 → _ ∧ _ = zo_cl (t * 4) 4 0 (V v 3) j ∧ (zb_nz (zo_cl (t * 4) 4 0 (V v 3) j) _ = _ → _))
    rw [e4, f5, f6]
    by_cases q : t * 4 ≤ j ∧ j < t * 4 + 4
    · rw [if_pos (by omega), zo_cl_in 4 0 _ j (by omega) (by omega)]
      exact ⟨fun _ => rfl, fun n => absurd rfl n⟩
    · rw [if_neg (by omega), zo_cl_out 4 0 _ j (by omega)]
      exact r2 j hj
  · intro j hj
    show (zo_cl (t * 12) 12 0 (V v 6) j = -1 → _) ∧ (¬ zo_cl (t * 12) 12 0 (V v 6) j = -1 → _ ∧ _ = zo_cl (t * 12) 12 0 (V v 6) j)
    rw [e7, f8]
    by_cases q : t * 12 ≤ j ∧ j < t * 12 + 12
    · rw [if_pos (by omega), zo_cl_in 12 0 _ j (by omega) (by omega)]
      exact ⟨fun _ => rfl, fun n => absurd rfl n⟩
    · rw [if_neg (by omega), zo_cl_out 12 0 _ j (by omega)]
      exact r3 j hj
  · obtain ⟨q1, q2, q3⟩ := zm_J_r hJ hw
    refine ⟨zm_r1_c (fun _ _ => ⟨rfl, rfl, rfl⟩) (fun j hj => ?_) q1, zm_r2_c (fun _ _ => ⟨rfl, rfl, rfl⟩) (fun j hj => ?_) q2, zm_r3_c (fun _ _ => ⟨rfl, rfl⟩) (fun j hj => ?_) q3⟩
    · rw [e0, f1, f2, f3]
      exact ⟨pk_un (by omega), rfl, rfl, rfl⟩
    · rw [e4, f5, f6, if_neg (by omega)]
      exact ⟨rfl, rfl, rfl⟩
    · rw [e7, f8, if_neg (by omega)]
      exact ⟨rfl, rfl⟩
