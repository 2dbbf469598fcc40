/-- a new kill; a longer one -/
def ed_vN (v : ed_V) (a d : Nat) : ed_V := (v.1, v.2.1, (min (v_kc v + 1) 4, fun i => if i = 0 then d else v_kl v (i - 1), fun i => if i = 0 then (fun j => v_tx v (a + j)) else v_kt v (i - 1)), v.2.2.2.1, v.2.2.2.2.1, v.2.2.2.2.2.1, v.2.2.2.2.2.2.1, v.2.2.2.2.2.2.2)
def ed_vB (v : ed_V) (a d : Nat) : ed_V := (v.1, v.2.1, (v.2.2.1.1, ed_u (v_kl v) 0 (v_kl v 0 + d), ed_u (v_kt v) 0 (fun j => if j < v_kl v 0 then v_kt v 0 j else v_tx v (a + (j - v_kl v 0)))), v.2.2.2.1, v.2.2.2.2.1, v.2.2.2.2.2.1, v.2.2.2.2.2.2.1, v.2.2.2.2.2.2.2)
theorem xA.fr {a : ed_VA} {X X' : mm_J} (h : xA a X) (e : X' 2 = X 2) (e2 : X' 3 = X 3) (e3 : X' 1 = X 1) : xA a X' := by
  unfold xA at *
  rw [e, e2, e3]
  exact h
theorem xP.fr {a : ed_VP} {X X' : mm_J} (h : xP a X) (e : X' 4 = X 4) (e2 : X' 5 = X 5) : xP a X' := by
  unfold xP at *
  rw [e, e2]
  exact h
/-- only the kills have changed -/
theorem ed_CF.kk {v : ed_V} {X X' X0 : mm_J} {G G' : mm_G} (h : ed_CF v X G X0) {a : ed_VK} (e : ∀ i, i < 6 ∨ 16 ≤ i → X' i = X i) (hG : mm_GI G') (hk : xK a X' G') : ed_CF (v.1, v.2.1, a, v.2.2.2) X' G' X0 :=
  ⟨⟨hG, h.1.2.1.fr (e 2 (by decide)) (e 3 (by decide)) (e 1 (by decide)), h.1.2.2.1.fr (e 4 (by decide)) (e 5 (by decide)), hk, h.1.2.2.2.2.1.fr (fun i _ _ => e i (by omega)), h.1.2.2.2.2.2.1.fr (e 0 (by decide)), h.1.2.2.2.2.2.2.1.fr (e 63 (by decide)) (e 64 (by decide)) (e 65 (by decide)), h.1.2.2.2.2.2.2.2.1.fr (e 66 (by decide)), h.1.2.2.2.2.2.2.2.2.fr (e 60 (by decide)) (e 61 (by decide)) (e 62 (by decide))⟩, fun i hi => (e i (by omega)).trans (h.2 i hi)⟩
def ed_kr (X : mm_J) (G : mm_G) (i r l : Nat) (t : Nat → Int32) : Prop := G 7 i = some r ∧ ed_kx r ∧ X r 1 = nI l ∧ ∀ j, j < l → X (r + 1) j = t j
theorem xK.rows {a : ed_VK} {X : mm_J} {G : mm_G} (h : xK a X G) : X 6 1 = nI a.1 ∧ ∃ r0 r1 r2 r3, ed_kr X G 0 r0 (a.2.1 0) (a.2.2 0) ∧ ed_kr X G 1 r1 (a.2.1 1) (a.2.2 1) ∧ ed_kr X G 2 r2 (a.2.1 2) (a.2.2 2) ∧ ed_kr X G 3 r3 (a.2.1 3) (a.2.2 3) ∧ (¬ r0 = r1 ∧ ¬ r0 = r2 ∧ ¬ r0 = r3 ∧ ¬ r1 = r2 ∧ ¬ r1 = r3 ∧ ¬ r2 = r3) := by
  obtain ⟨h1, x, h2, h3⟩ := h
  refine ⟨h1, x 0, x 1, x 2, x 3, h3 0 (by decide), h3 1 (by decide), h3 2 (by decide), h3 3 (by decide), ?_, ?_, ?_, ?_, ?_, ?_⟩
  · exact fun q => absurd (h2 0 1 (by decide) (by decide) q) (by decide)
  · exact fun q => absurd (h2 0 2 (by decide) (by decide) q) (by decide)
  · exact fun q => absurd (h2 0 3 (by decide) (by decide) q) (by decide)
  · exact fun q => absurd (h2 1 2 (by decide) (by decide) q) (by decide)
  · exact fun q => absurd (h2 1 3 (by decide) (by decide) q) (by decide)
  · exact fun q => absurd (h2 2 3 (by decide) (by decide) q) (by decide)
def ed_pk4 {α : Type} (a b c d : α) : Nat → α := fun i => if i = 0 then a else if i = 1 then b else if i = 2 then c else d
theorem xK.of {a : ed_VK} {X : mm_J} {G : mm_G} (h1 : X 6 1 = nI a.1) {r0 r1 r2 r3 : Nat} (k0 : ed_kr X G 0 r0 (a.2.1 0) (a.2.2 0)) (k1 : ed_kr X G 1 r1 (a.2.1 1) (a.2.2 1)) (k2 : ed_kr X G 2 r2 (a.2.1 2) (a.2.2 2)) (k3 : ed_kr X G 3 r3 (a.2.1 3) (a.2.2 3)) (hd : ¬ r0 = r1 ∧ ¬ r0 = r2 ∧ ¬ r0 = r3 ∧ ¬ r1 = r2 ∧ ¬ r1 = r3 ∧ ¬ r2 = r3) : xK a X G := by
  refine ⟨h1, ed_pk4 r0 r1 r2 r3, fun i j hi hj he => ?_, fun i hi => ?_⟩
  · unfold ed_pk4 at he
    obtain rfl | rfl | rfl | rfl : i = 0 ∨ i = 1 ∨ i = 2 ∨ i = 3 := by omega
    all_goals (obtain rfl | rfl | rfl | rfl : j = 0 ∨ j = 1 ∨ j = 2 ∨ j = 3 := by omega)
    all_goals (simp at he; try omega)
  · obtain rfl | rfl | rfl | rfl : i = 0 ∨ i = 1 ∨ i = 2 ∨ i = 3 := by omega
    · exact k0
    · exact k1
    · exact k2
    · exact k3
theorem ed_kr.fr {X X' : mm_J} {G G' : mm_G} {i i' r l : Nat} {t : Nat → Int32} (h : ed_kr X G i r l t) (hg : G' 7 i' = some r) (e1 : X' r = X r) (e2 : X' (r + 1) = X (r + 1)) : ed_kr X' G' i' r l t := by
  obtain ⟨h1, h2, h3, h4⟩ := h
  exact ⟨hg, h2, by rw [e1]; exact h3, by rw [e2]; exact h4⟩
theorem ed_CF.kn {v : ed_V} {X X0 : mm_J} {G : mm_G} (h : ed_CF v X G X0) {r0 r1 r2 r3 a d : Nat} (k0 : ed_kr X G 0 r0 (v_kl v 0) (v_kt v 0)) (k1 : ed_kr X G 1 r1 (v_kl v 1) (v_kt v 1)) (k2 : ed_kr X G 2 r2 (v_kl v 2) (v_kt v 2)) (k3 : ed_kr X G 3 r3 (v_kl v 3) (v_kt v 3)) (hd : ¬ r0 = r1 ∧ ¬ r0 = r2 ∧ ¬ r0 = r3 ∧ ¬ r1 = r2 ∧ ¬ r1 = r3 ∧ ¬ r2 = r3) (had : a + d ≤ v_n v) :
    ed_CF (ed_vN v a d) (mm_set (mm_cp (mm_set (mm_set X r3 1 (nI 0)) 6 1 (nI (min (v_kc v + 1) 4))) 3 (r3 + 1) a 0 d) r3 1 (nI (0 + d))) (mm_sg (mm_sg (mm_sg (mm_sg G 7 3 (some r2)) 7 2 (some r1)) 7 1 (some r0)) 7 0 (some r3)) X0 := by
  have q0 := k0.2.1
  have q1 := k1.2.1
  have q2 := k2.2.1
  have q3 := k3.2.1
  unfold ed_kx at q0 q1 q2 q3
  have ef : ∀ b, ¬ b = r3 → ¬ b = r3 + 1 → ¬ b = 6 → mm_set (mm_cp (mm_set (mm_set X r3 1 (nI 0)) 6 1 (nI (min (v_kc v + 1) 4))) 3 (r3 + 1) a 0 d) r3 1 (nI (0 + d)) b = X b := fun b b1 b2 b3 => by
    rw [mm_set_ne _ _ _ b1, mm_cp_ne _ _ _ _ b2, mm_set_ne _ _ _ b3, mm_set_ne _ _ _ b1]
  refine h.kk (a := (min (v_kc v + 1) 4, (fun i => if i = 0 then d else v_kl v (i - 1)), (fun i => if i = 0 then (fun j => v_tx v (a + j)) else v_kt v (i - 1)))) (fun i hi => ef i (by omega) (by omega) (by omega)) (mm_GI_sg (mm_GI_sg (mm_GI_sg (mm_GI_sg h.1.1)))) (xK.of (r0 := r3) (r1 := r0) (r2 := r1) (r3 := r2) ?_ ⟨rfl, k3.2.1, ?_, fun j hj => ?_⟩ (k0.fr rfl (ef _ (by omega) (by omega) (by omega)) (ef _ (by omega) (by omega) (by omega))) (k1.fr rfl (ef _ (by omega) (by omega) (by omega)) (ef _ (by omega) (by omega) (by omega))) (k2.fr rfl (ef _ (by omega) (by omega) (by omega)) (ef _ (by omega) (by omega) (by omega))) (by omega))
  · rw [mm_set_ne _ _ _ (by omega), mm_cp_ne _ _ _ _ (by omega), mm_set_i]
  · rw [mm_set_i, Nat.zero_add]
    rfl
  · replace hj : j < d := hj
    rw [mm_set_ne _ _ _ (by omega), mm_cp_at, va_cpy_y (by omega) (by omega), mm_set_ne _ _ _ (by omega), mm_set_ne _ _ _ (by omega), Nat.sub_zero]
    exact h.1.2.1.2.1 (a + j) (Nat.lt_of_lt_of_le (by omega) had)
theorem ed_CF.kb {v : ed_V} {X X0 : mm_J} {G : mm_G} (h : ed_CF v X G X0) {r0 r1 r2 r3 a d : Nat} (k0 : ed_kr X G 0 r0 (v_kl v 0) (v_kt v 0)) (k1 : ed_kr X G 1 r1 (v_kl v 1) (v_kt v 1)) (k2 : ed_kr X G 2 r2 (v_kl v 2) (v_kt v 2)) (k3 : ed_kr X G 3 r3 (v_kl v 3) (v_kt v 3)) (hd : ¬ r0 = r1 ∧ ¬ r0 = r2 ∧ ¬ r0 = r3 ∧ ¬ r1 = r2 ∧ ¬ r1 = r3 ∧ ¬ r2 = r3) (had : a + d ≤ v_n v) :
    ed_CF (ed_vB v a d) (mm_set (mm_cp X 3 (r0 + 1) a (v_kl v 0) d) r0 1 (nI (v_kl v 0 + d))) G X0 := by
  have q0 := k0.2.1
  have q1 := k1.2.1
  have q2 := k2.2.1
  have q3 := k3.2.1
  unfold ed_kx at q0 q1 q2 q3
  have ef : ∀ b, ¬ b = r0 → ¬ b = r0 + 1 → mm_set (mm_cp X 3 (r0 + 1) a (v_kl v 0) d) r0 1 (nI (v_kl v 0 + d)) b = X b := fun b b1 b2 => by
    rw [mm_set_ne _ _ _ b1, mm_cp_ne _ _ _ _ b2]
  refine h.kk (a := (v_kc v, ed_u (v_kl v) 0 (v_kl v 0 + d), ed_u (v_kt v) 0 (fun j => if j < v_kl v 0 then v_kt v 0 j else v_tx v (a + (j - v_kl v 0))))) (fun i hi => ef i (by omega) (by omega)) h.1.1 (xK.of (r0 := r0) (r1 := r1) (r2 := r2) (r3 := r3) ?_ ⟨k0.1, k0.2.1, ?_, fun j hj => ?_⟩ (k1.fr k1.1 (ef _ (by omega) (by omega)) (ef _ (by omega) (by omega))) (k2.fr k2.1 (ef _ (by omega) (by omega)) (ef _ (by omega) (by omega))) (k3.fr k3.1 (ef _ (by omega) (by omega)) (ef _ (by omega) (by omega))) hd)
  · rw [ef 6 (by omega) (by omega)]
    exact h.1.2.2.2.1.1
  · rw [mm_set_i]
    rfl
  · replace hj : j < v_kl v 0 + d := hj
    show _ = if j < v_kl v 0 then v_kt v 0 j else v_tx v (a + (j - v_kl v 0))
    rw [mm_set_ne _ _ _ (by omega), mm_cp_at]
    by_cases hl : j < v_kl v 0
    · rw [if_pos hl, va_cpy_n (Or.inl hl)]
      exact k0.2.2.2 j hl
    · rw [if_neg hl, va_cpy_y (by omega) hj]
      exact h.1.2.1.2.1 _ (Nat.lt_of_lt_of_le (by omega) had)
/-- the reference's kills -/
theorem ed_sh1_75 (J : mm_J) (k : Nat) : ed_sh1 J k 75 = va_cpy (J 75) (J 75) (k * 100 - 100) (k * 100) 100 := by
  unfold ed_sh1
  rw [mm_cp_at]
  rfl
theorem ed_shift_75 (J : mm_J) {i j : Nat} (hi : i < 3) (hj : j < 100) : ed_shift J 75 ((i + 1) * 100 + j) = J 75 (i * 100 + j) := by
  show ed_sh1 (ed_sh1 (ed_sh1 J 3) 2) 1 75 ((i + 1) * 100 + j) = _
  rw [ed_sh1_75, ed_sh1_75, ed_sh1_75]
  obtain rfl | rfl | rfl : i = 0 ∨ i = 1 ∨ i = 2 := by omega
  · rw [va_cpy_y (by omega) (by omega), va_cpy_n (by omega), va_cpy_n (by omega)]
    exact congrArg (J 75) (by omega)
  · rw [va_cpy_n (by omega), va_cpy_y (by omega) (by omega), va_cpy_n (by omega)]
    exact congrArg (J 75) (by omega)
  · rw [va_cpy_n (by omega), va_cpy_n (by omega), va_cpy_y (by omega) (by omega)]
    exact congrArg (J 75) (by omega)
theorem ed_CM.kn {v : ed_V} {M : mm_J} (h : ed_CM v M) {a d : Nat} (had : a + d ≤ v_n v) (hn : v_n v ≤ 100) (hl : ∀ i, i < 4 → v_kl v i ≤ 100) : ed_CM (ed_vN v a d) (mm_set (mm_cp (ed_shift (mm_set M 69 14 (nI (min (v_kc v + 1) 4)))) 70 75 a 0 d) 76 0 (nI (0 + d))) := by
  obtain ⟨hA, hP, ⟨c1, c2⟩, hH, hS, hE, hN, hB⟩ := h
  refine ⟨hA, hP, ⟨rfl, fun i hi => ?_⟩, hH, hS, hE, hN, hB⟩
  show _ = nI (if i = 0 then d else v_kl v (i - 1)) ∧ ∀ j, j < (if i = 0 then d else v_kl v (i - 1)) → _ = (if i = 0 then (fun j => v_tx v (a + j)) else v_kt v (i - 1)) j
  by_cases h0 : i = 0
  · subst h0
    rw [if_pos rfl, if_pos rfl]
    refine ⟨by rw [mm_set_i, Nat.zero_add], fun j hj => ?_⟩
    show va_cpy (M 70) _ a 0 d (0 * 100 + j) = _
    rw [va_cpy_y (by omega) (by omega), show a + (0 * 100 + j - 0) = a + j by omega]
    exact hA.2.1 _ (Nat.lt_of_lt_of_le (by omega) had)
  · rw [if_neg h0, if_neg h0]
    have g := c2 (i - 1) (by omega)
    have g2 := hl (i - 1) (by omega)
    have e : ed_shift (mm_set M 69 14 (nI (min (v_kc v + 1) 4))) 76 i = M 76 (i - 1) := by
      obtain rfl | rfl | rfl : i = 1 ∨ i = 2 ∨ i = 3 := by omega
      · rfl
      · rfl
      · rfl
    refine ⟨?_, fun j hj => ?_⟩
    · rw [mm_set_o (by omega), mm_cp_ne _ _ _ _ (by decide), e]
      exact g.1
    · show va_cpy (M 70) (ed_shift (mm_set M 69 14 (nI (min (v_kc v + 1) 4))) 75) a 0 d (i * 100 + j) = _
      have := ed_shift_75 (mm_set M 69 14 (nI (min (v_kc v + 1) 4))) (i := i - 1) (j := j) (by omega) (by omega)
      rw [show i - 1 + 1 = i by omega] at this
      rw [va_cpy_n (Or.inr (by omega)), this]
      exact g.2 j hj
theorem ed_CM.kb {v : ed_V} {M : mm_J} (h : ed_CM v M) {a d : Nat} (had : a + d ≤ v_n v) (hl : v_kl v 0 + d ≤ 100) : ed_CM (ed_vB v a d) (mm_set (mm_cp M 70 75 a (v_kl v 0) d) 76 0 (nI (v_kl v 0 + d))) := by
  obtain ⟨hA, hP, ⟨c1, c2⟩, hH, hS, hE, hN, hB⟩ := h
  refine ⟨hA, hP, ⟨c1, fun i hi => ?_⟩, hH, hS, hE, hN, hB⟩
  show _ = nI (ed_u (v_kl v) 0 (v_kl v 0 + d) i) ∧ ∀ j, j < ed_u (v_kl v) 0 (v_kl v 0 + d) i → _ = ed_u (v_kt v) 0 (fun j => if j < v_kl v 0 then v_kt v 0 j else v_tx v (a + (j - v_kl v 0))) i j
  by_cases h0 : i = 0
  · subst h0
    rw [ed_u_y, ed_u_y]
    refine ⟨by rw [mm_set_i], fun j hj => ?_⟩
    show va_cpy (M 70) (M 75) a (v_kl v 0) d (0 * 100 + j) = _
    rw [show 0 * 100 + j = j by omega]
    by_cases hlt : j < v_kl v 0
    · rw [va_cpy_n (Or.inl hlt), if_pos hlt]
      have := (c2 0 (by decide)).2 j hlt
      rw [show 0 * 100 + j = j by omega] at this
      exact this
    · rw [va_cpy_y (by omega) hj, if_neg hlt]
      exact hA.2.1 _ (Nat.lt_of_lt_of_le (by omega) had)
  · rw [ed_u_n h0, ed_u_n h0]
    have g := c2 i hi
    refine ⟨by rw [mm_set_o (by omega), mm_cp_ne _ _ _ _ (by decide)]; exact g.1, fun j hj => ?_⟩
    show va_cpy (M 70) (M 75) a (v_kl v 0) d (i * 100 + j) = _
    rw [va_cpy_n (Or.inr (by omega))]
    exact g.2 j hj
