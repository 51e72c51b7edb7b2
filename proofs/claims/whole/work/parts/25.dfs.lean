/-! the reference's search with a stack finds what the class's recursion finds -/
def zs_R (F : Nat → Int32) : List Nat → Int32
  | [] => -1
  | t :: r => if F t = -1 then zs_R F r else F t
theorem zs_R_app {F : Nat → Int32} : ∀ (l r : List Nat), zs_R F (l ++ r) = if zs_R F l = -1 then zs_R F r else zs_R F l
  | [], r => (if_pos rfl).symm
  | t :: l, r => by
    show (if F t = -1 then zs_R F (l ++ r) else F t) = if (if F t = -1 then zs_R F l else F t) = -1 then zs_R F r else (if F t = -1 then zs_R F l else F t)
    by_cases h : F t = -1
    · rw [if_pos h, if_pos h]; exact zs_R_app l r
    · rw [if_neg h, if_neg h, if_neg h]
/-- the bits of x from place i on, n places, rising -/
def zb_up (x : Int32) : Nat → Nat → List Nat
  | 0, _ => []
  | n + 1, i => if zk_bit x i = true then i :: zb_up x n (i + 1) else zb_up x n (i + 1)
theorem zb_up_mem {x : Int32} : ∀ (n i j : Nat), j ∈ zb_up x n i → i ≤ j ∧ j < i + n ∧ zk_bit x j = true
  | 0, _, _, h => by cases h
  | n + 1, i, j, h => by
    unfold zb_up at h
    by_cases hb : zk_bit x i = true
    · rw [if_pos hb] at h
      rcases List.mem_cons.mp h with e | h
      · subst e; exact ⟨Nat.le_refl _, by omega, hb⟩
      · have := zb_up_mem n (i + 1) j h; exact ⟨by omega, by omega, this.2.2⟩
    · rw [if_neg hb] at h
      have := zb_up_mem n (i + 1) j h; exact ⟨by omega, by omega, this.2.2⟩
theorem zs_ffL {F : Nat → Int32} {x z : Int32} : ∀ (n i : Nat), zo_ffL F x z n i = if zs_R F (zb_up x n i) = -1 then z else zs_R F (zb_up x n i)
  | 0, _ => (if_pos rfl).symm
  | n + 1, i => by
    by_cases hb : zk_bit x i = true
    · rw [zb_up, if_pos hb]
      show _ = if (if F i = -1 then zs_R F (zb_up x n (i + 1)) else F i) = -1 then z else (if F i = -1 then zs_R F (zb_up x n (i + 1)) else F i)
      by_cases hf : F i = -1
      · rw [zo_ffL_go (fun q => q.2 hf), if_pos hf]; exact zs_ffL n (i + 1)
      · rw [zo_ffL_yes ⟨hb, hf⟩, if_neg hf, if_neg hf]
    · rw [zo_ffL_go (fun q => hb q.1), zb_up, if_neg hb]; exact zs_ffL n (i + 1)
theorem zb_up_cut {x : Int32} {t : Nat} : ∀ (n i : Nat), (∀ j, t ≤ j → j < i + n → zk_bit x j = false) → zb_up x n i = zb_up x (min n (t - i)) i
  | 0, i, _ => by rw [Nat.zero_min]
  | n + 1, i, h => by
    by_cases hi : i < t
    · rw [show min (n + 1) (t - i) = min n (t - (i + 1)) + 1 by omega, zb_up, zb_up, zb_up_cut n (i + 1) (fun j a b => h j a (by omega))]
    · have e0 : zb_up x (n + 1) i = zb_up x n (i + 1) := by
        unfold zb_up
        rw [if_neg (by rw [h i (by omega) (by omega)]; decide)]
        cases n <;> rfl
      rw [show min (n + 1) (t - i) = 0 by omega, e0, zb_up_cut n (i + 1) (fun j a b => h j a (by omega)), show min n (t - (i + 1)) = 0 by omega]
      rfl
theorem zo_ffL_c {f g : Nat → Int32} {x z z' : Int32} (hz : z = z') : ∀ (n i : Nat), (∀ j, j < n + i → f j = g j) → zo_ffL f x z n i = zo_ffL g x z' n i
  | 0, _, _ => hz
  | n + 1, i, h => by
    rw [zo_ffL, zo_ffL, h i (by omega), zo_ffL_c hz n (i + 1) (fun j hj => h j (by omega))]
theorem zo_ff_d {O : zo_O} (hw : zo_wf O) {nm : Nat} {kd : Int32} : ∀ (d t : Nat), t < d → t < 6 → zo_ff O nm kd d t = zo_ff O nm kd (d + 1) t
  | 0, _, h, _ => absurd h (by omega)
  | d + 1, t, h, ht => by
    rw [zo_ff, zo_ff]
    by_cases ho : ¬ O 3 (t * 4 + nm) = -1 ∧ (kd = -1 ∨ O 4 (t * 4 + nm) = kd)
    · rw [if_pos ho, if_pos ho]
    · rw [if_neg ho, if_neg ho]
      refine zo_ffL_c ?_ t 0 (fun j hj => zo_ff_d hw d j (by omega) (by omega))
      by_cases h6 : O 1 t = nI 6
      · rw [if_pos h6, if_pos h6]
      · rw [if_neg h6, if_neg h6]
        obtain ⟨s, hs, e⟩ := (hw t ht).resolve_left h6
        rw [e, nI_clamp (by omega)]
        exact zo_ff_d hw d s (by omega) (by omega)
theorem zo_ff_6 {O : zo_O} (hw : zo_wf O) {nm : Nat} {kd : Int32} {t : Nat} (ht : t < 5) : zo_ff O nm kd 5 t = zo_ff O nm kd 6 t := zo_ff_d hw 5 t ht (by omega)
def zs_up (O : zo_O) (t : Nat) : List Nat := if O 1 t = nI 6 then [] else [(O 1 t).toNatClampNeg]
/-- a type without the field: its interfaces by rising number, then its super -/
theorem zs_step {O : zo_O} (hok : zo_ok O) {nm : Nat} {kd : Int32} {t : Nat} (ht : t < 6) (hth : zo_th O t = true) (ho : ¬ (¬ O 3 (t * 4 + nm) = -1 ∧ (kd = -1 ∨ O 4 (t * 4 + nm) = kd))) : zo_ff O nm kd 6 t = zs_R (fun i => zo_ff O nm kd 6 i) (zb_up (O 2 t) 6 0 ++ zs_up O t) := by
  have hw := zo_ok_wf hok
  obtain ⟨q1, q2⟩ := hok.2.1 t ht (zo_thn hth)
  rw [zo_ff_up ho, zs_R_app]
  have e1 : zb_up (O 2 t) 6 0 = zb_up (O 2 t) t 0 := by
    rw [zb_up_cut (t := t) 6 0 (fun j a b => by
      cases hb : zk_bit (O 2 t) j with
      | false => rfl
      | true => exact absurd (q2 j (by omega) hb).1 (by omega)), show min 6 (t - 0) = t by omega]
  rw [e1]
  have e2 : (if O 1 t = nI 6 then -1 else zo_ff O nm kd 5 (O 1 t).toNatClampNeg) = zs_R (fun i => zo_ff O nm kd 6 i) (zs_up O t) := by
    unfold zs_up
    by_cases h6 : O 1 t = nI 6
    · rw [if_pos h6, if_pos h6]; rfl
    · rw [if_neg h6, if_neg h6]
      obtain ⟨s, hs, e⟩ := (hw t ht).resolve_left h6
      rw [e, nI_clamp (by omega), zo_ff_6 hw (by omega)]
      show _ = if zo_ff O nm kd 6 s = -1 then -1 else zo_ff O nm kd 6 s
      by_cases hf : zo_ff O nm kd 6 s = -1
      · rw [if_pos hf]; exact hf
      · rw [if_neg hf]
  rw [zo_ffL_c (g := fun i => zo_ff O nm kd 6 i) e2 t 0 (fun j hj => zo_ff_6 hw (by omega)), zs_ffL]
/-- the stack: top first; and what it may still cost -/
def zs_st (f : Nat → Int32) : List Nat → Prop
  | [] => True
  | t :: r => f r.length = nI t ∧ zs_st f r
theorem zs_st_u {f : Nat → Int32} {i : Nat} {x : Int32} : ∀ (l : List Nat), l.length ≤ i → zs_st f l → zs_st (upd f i x) l
  | [], _, _ => trivial
  | t :: r, h, hs => by
    have hl : r.length + 1 ≤ i := h
    exact ⟨by rw [pk_un (by omega)]; exact hs.1, zs_st_u r (by omega) hs.2⟩
def zs_p (t : Nat) : Nat := if t = 0 then 1 else if t = 1 then 3 else if t = 2 then 8 else if t = 3 then 21 else if t = 4 then 55 else 144
def zs_m : List Nat → Nat
  | [] => 0
  | t :: r => zs_p t + zs_m r
theorem zs_p1 (t : Nat) : 1 ≤ zs_p t := by
  unfold zs_p
  repeat (first | omega | split)
theorem zs_m_len : ∀ l : List Nat, l.length ≤ zs_m l
  | [] => Nat.le_refl 0
  | t :: r => by
    have h1 := zs_m_len r
    have h2 := zs_p1 t
    show r.length + 1 ≤ zs_p t + zs_m r
    omega
theorem zs_m_app : ∀ l r : List Nat, zs_m (l ++ r) = zs_m l + zs_m r
  | [], r => (Nat.zero_add _).symm
  | t :: l, r => by
    show zs_p t + zs_m (l ++ r) = zs_p t + zs_m l + zs_m r
    rw [zs_m_app l r]; omega
def zs_q : Nat → Nat → Nat
  | 0, _ => 0
  | n + 1, i => zs_p i + zs_q n (i + 1)
theorem zs_m_up {x : Int32} : ∀ n i, zs_m (zb_up x n i) ≤ zs_q n i
  | 0, _ => Nat.le_refl 0
  | n + 1, i => by
    have h := zs_m_up (x := x) n (i + 1)
    unfold zb_up
    by_cases hb : zk_bit x i = true
    · rw [if_pos hb]
      show zs_p i + zs_m (zb_up x n (i + 1)) ≤ zs_p i + zs_q n (i + 1)
      omega
    · rw [if_neg hb]
      show zs_m (zb_up x n (i + 1)) ≤ zs_p i + zs_q n (i + 1)
      omega
theorem zs_fall : ∀ t, t < 6 → ∀ s, s < t → zs_q t 0 + zs_p s < zs_p t := by decide
theorem zs_fall0 : ∀ t, t < 6 → zs_q t 0 < zs_p t := by decide
/-- what is pushed for a type costs less than the type -/
theorem zs_cost {O : zo_O} (hok : zo_ok O) {t : Nat} (ht : t < 6) (hth : zo_th O t = true) : zs_m (zb_up (O 2 t) 6 0 ++ zs_up O t) < zs_p t := by
  obtain ⟨q1, q2⟩ := hok.2.1 t ht (zo_thn hth)
  have e1 : zb_up (O 2 t) 6 0 = zb_up (O 2 t) t 0 := by
    rw [zb_up_cut (t := t) 6 0 (fun j a b => by
      cases hb : zk_bit (O 2 t) j with
      | false => rfl
      | true => exact absurd (q2 j (by omega) hb).1 (by omega)), show min 6 (t - 0) = t by omega]
  rw [zs_m_app, e1]
  have h1 := zs_m_up (x := O 2 t) t 0
  unfold zs_up
  by_cases h6 : O 1 t = nI 6
  · rw [if_pos h6]
    have h2 := zs_fall0 t ht
    show _ + 0 < _
    omega
  · rw [if_neg h6]
    obtain ⟨s, hs, e, -⟩ := q1.resolve_left h6
    rw [e, nI_clamp (by omega)]
    have h2 := zs_fall t ht s hs
    show _ + (zs_p s + 0) < _
    omega
def zs_th (O : zo_O) (l : List Nat) : Prop := ∀ t, t ∈ l → t < 6 ∧ zo_th O t = true
theorem zs_th_step {O : zo_O} (hok : zo_ok O) {t : Nat} {r : List Nat} (h : zs_th O (t :: r)) : zs_th O (zb_up (O 2 t) 6 0 ++ (zs_up O t ++ r)) := by
  obtain ⟨ht, hth⟩ := h t List.mem_cons_self
  obtain ⟨q1, q2⟩ := hok.2.1 t ht (zo_thn hth)
  intro j hj
  rcases List.mem_append.mp hj with hj | hj
  · have hm := zb_up_mem _ _ _ hj
    have := q2 j (by omega) hm.2.2
    exact ⟨by omega, decide_eq_true this.2⟩
  · rcases List.mem_append.mp hj with hj | hj
    · unfold zs_up at hj
      by_cases h6 : O 1 t = nI 6
      · rw [if_pos h6] at hj; cases hj
      · rw [if_neg h6] at hj
        obtain ⟨s, hs, e, h3⟩ := q1.resolve_left h6
        rw [e, nI_clamp (by omega)] at hj
        rw [List.mem_singleton.mp hj]
        exact ⟨by omega, decide_eq_true h3⟩
    · exact h j (List.mem_cons_of_mem _ hj)
