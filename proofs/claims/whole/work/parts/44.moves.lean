/-- a command's work on both sides -/
def ed_WP (E : mm_E) (k : Nat) (v : ed_V) (X : mm_J) (G : mm_G) (M : mm_J) : Prop :=
  (∃ r : Int32, r < 0 ∧ ed_sX E qE_carryOut [.ref 0, .int (nI k)] X G (some (.int r)) v ∧ ed_sM E qR_work [.ref 69, .int (nI k)] M (some (.int r)) v) ∨
  ∃ v' : ed_V, ed_sX E qE_carryOut [.ref 0, .int (nI k)] X G (some (.int (nI 0))) v' ∧ ed_sM E qR_work [.ref 69, .int (nI k)] M (some (.int (nI 0))) v' ∧ ed_I (v'.1, v'.2.1, v'.2.2.1, v'.2.2.2.1, (1, nI k, v'.2.2.2.2.1.2.2.1, v'.2.2.2.2.1.2.2.2.1, v'.2.2.2.2.1.2.2.2.2.1, v'.2.2.2.2.1.2.2.2.2.2.1, v'.2.2.2.2.1.2.2.2.2.2.2), v'.2.2.2.2.2.1, v'.2.2.2.2.2.2.1, v'.2.2.2.2.2.2.2) ∧ v_m v' ≤ v_m v + 1 ∧ v_E v' = v_E v
theorem iC_no {v : ed_V} {k : Nat} (e : v_l v = nI k) (h : k < 2 ^ 31 ∧ ¬ k = 10 ∧ ¬ k = 11 ∧ ¬ k = 13 ∧ ¬ k = 14 ∧ ¬ k = 19) : iC v := by
  obtain ⟨h0, h1, h2, h3, h4, h5⟩ := h
  refine ⟨fun q => ?_, fun q => ?_, fun q => ?_⟩
  · rw [e, nI_eq h0 (by decide), nI_eq h0 (by decide)] at q
    exact absurd q (by omega)
  · rw [e, nI_eq h0 (by decide), nI_eq h0 (by decide)] at q
    exact absurd q (by omega)
  · rw [e, nI_eq h0 (by decide)] at q
    exact absurd q h5
theorem ed_TI_of {v : ed_V} {X : mm_J} {G : mm_G} (h : ed_CX v X G) (hI : ed_I v) (hm : v_m v < 2 ^ 29) : ed_TI X (v_n v) (v_m v) := by
  obtain ⟨hG, ⟨a1, a2, a3⟩, ⟨p1, p2, p3, p4⟩, hK, ⟨s1, s2⟩, hS, hE, hN, hB⟩ := h
  obtain ⟨⟨iA1, iP1, iK1, iH1, iS1, iE1, iN1, iB1⟩, iC1⟩ := hI
  refine ⟨a1, iA1.1, fun i hi => ?_, fun i hi => ?_, s1, by omega⟩
  · rcases Nat.lt_or_eq_of_le (Nat.le_of_lt_succ hi) with e | e
    · rw [p2 i e]
      exact (iP1.2 i e).1.vp iA1.1
    · rw [e, p1]
      exact iP1.1.vp iA1.1
  · rcases Nat.lt_or_eq_of_le (Nat.le_of_lt_succ hi) with e | e
    · rw [p4 i e]
      exact (iP1.2 i e).2
    · rw [e, p3]
      exact ⟨0, by decide, rfl⟩
theorem ed_RB_of {v : ed_V} {M : mm_J} (h : ed_CM v M) (hI : ed_I v) (hm : v_m v < 2 ^ 29) : ed_RB M (v_n v) (v_m v) := by
  obtain ⟨⟨a1, a2, a3⟩, ⟨p1, p2, p3⟩, hK, ⟨s1, s2⟩, hS, hE, hN, hB⟩ := h
  obtain ⟨⟨iA1, iP1, iK1, iH1, iS1, iE1, iN1, iB1⟩, iC1⟩ := hI
  refine ⟨a1, iA1.1, by rw [p1]; exact iP1.1.vp iA1.1, fun i hi => by rw [p2 i hi]; exact (iP1.2 i hi).1.vp iA1.1, fun i hi => by rw [p3 i hi]; exact (iP1.2 i hi).2, s1, by omega⟩
theorem wp_0 {E : mm_E} {v : ed_V} {X : mm_J} {G : mm_G} {M : mm_J} (hX : ed_CX v X G) (hM : ed_CM v M) (hI : ed_I v) : ed_WP E 0 v X G M := by
  obtain ⟨hG, ⟨a1, a2, a3⟩, ⟨p1, p2, p3, p4⟩, hK, ⟨s1, s2⟩, ⟨t1, t2, t3, t4, t5⟩, hE, hN, hB⟩ := id hX
  obtain ⟨⟨b1, b2, b3⟩, ⟨o1, o2, o3⟩, hKm, ⟨u1, u2⟩, ⟨w1, w2, w3, w4, w5, w6, w7⟩, hEm, hNm, hBm⟩ := id hM
  obtain ⟨⟨⟨i1, i2⟩, iP1, iK1, iH1, ⟨j1, j2, j3⟩, iE1, iN1, iB1⟩, iC1⟩ := id hI
  replace a1 : X 2 1 = nI (v_n v) := a1
  replace a2 : ∀ i, i < v_n v → X 3 i = v_tx v i := a2
  replace a3 : X 1 3 = nI (v_q v) := a3
  replace p1 : X 4 4 = v_mk v := p1
  replace s1 : X 16 3 = nI (v_m v) := s1
  replace t1 : X 0 7 = nI (v_t v) := t1
  replace t2 : X 0 8 = v_l v := t2
  replace t3 : X 0 9 = nI (v_g v) := t3
  replace t4 : X 0 10 = nI (v_y v) := t4
  replace t5 : X 0 11 = nI (v_ud v) := t5
  replace b1 : M 69 3 = nI (v_n v) := b1
  replace b2 : ∀ i, i < v_n v → M 70 i = v_tx v i := b2
  replace b3 : M 69 5 = nI (v_q v) := b3
  replace o1 : M 69 6 = v_mk v := o1
  replace w1 : M 69 7 = nI (v_t v) := w1
  replace w2 : M 69 8 = v_l v := w2
  replace w3 : M 69 9 = nI (v_g v) := w3
  replace w4 : M 69 17 = nI (v_y v) := w4
  replace w5 : M 69 24 = nI (v_ud v) := w5
  replace w6 : M 69 15 = nI (v_ya v) := w6
  replace w7 : M 69 16 = nI (v_yl v) := w7
  replace u1 : M 69 23 = nI (v_m v) := u1
  replace i1 : v_n v ≤ 100 := i1
  replace i2 : v_q v ≤ v_n v := i2
  replace iP1 : iP (v_n v) (v_P v) := iP1
  replace j1 : 1 ≤ v_t v := j1
  replace j2 : v_t v ≤ 9 := j2
  replace j3 : v_g v ≤ 100 := j3
  refine Or.inr ⟨((v.1.1, v.1.2.1, min (v_q v + v_t v) (v_n v)), v.2.1, v.2.2.1, v.2.2.2.1, v.2.2.2.2.1, v.2.2.2.2.2.1, v.2.2.2.2.2.2.1, v.2.2.2.2.2.2.2), ⟨_, _, ?_, (ed_CF.rf hX).q (min (v_q v + v_t v) (v_n v))⟩, ⟨_, hM.q (min (v_q v + v_t v) (v_n v)), fun K GM hGM => ?_⟩, ⟨⟨⟨i1, Nat.min_le_right _ _⟩, iP1, iK1, iH1, ⟨Nat.le_refl 1, (by decide : 1 ≤ 9), j3⟩, iE1, iN1, iB1⟩, iC_no (k := 0) rfl (by decide)⟩, Nat.le_succ _, rfl⟩
  · have c := sE_co0 (E := E) hG a1 i1 a3 i2 t1 j2 (sE_moveTo hG)
    exact c
  · have c := sR_wk0 (sR_move0 (E := E) (J := mm_mx K M) hGM b1 i1 b3 i2 w1 j2)
    rw [mx_set (by decide)] at c
    exact c
theorem wp_1 {E : mm_E} {v : ed_V} {X : mm_J} {G : mm_G} {M : mm_J} (hX : ed_CX v X G) (hM : ed_CM v M) (hI : ed_I v) : ed_WP E 1 v X G M := by
  obtain ⟨hG, ⟨a1, a2, a3⟩, ⟨p1, p2, p3, p4⟩, hK, ⟨s1, s2⟩, ⟨t1, t2, t3, t4, t5⟩, hE, hN, hB⟩ := id hX
  obtain ⟨⟨b1, b2, b3⟩, ⟨o1, o2, o3⟩, hKm, ⟨u1, u2⟩, ⟨w1, w2, w3, w4, w5, w6, w7⟩, hEm, hNm, hBm⟩ := id hM
  obtain ⟨⟨⟨i1, i2⟩, iP1, iK1, iH1, ⟨j1, j2, j3⟩, iE1, iN1, iB1⟩, iC1⟩ := id hI
  replace a1 : X 2 1 = nI (v_n v) := a1
  replace a2 : ∀ i, i < v_n v → X 3 i = v_tx v i := a2
  replace a3 : X 1 3 = nI (v_q v) := a3
  replace p1 : X 4 4 = v_mk v := p1
  replace s1 : X 16 3 = nI (v_m v) := s1
  replace t1 : X 0 7 = nI (v_t v) := t1
  replace t2 : X 0 8 = v_l v := t2
  replace t3 : X 0 9 = nI (v_g v) := t3
  replace t4 : X 0 10 = nI (v_y v) := t4
  replace t5 : X 0 11 = nI (v_ud v) := t5
  replace b1 : M 69 3 = nI (v_n v) := b1
  replace b2 : ∀ i, i < v_n v → M 70 i = v_tx v i := b2
  replace b3 : M 69 5 = nI (v_q v) := b3
  replace o1 : M 69 6 = v_mk v := o1
  replace w1 : M 69 7 = nI (v_t v) := w1
  replace w2 : M 69 8 = v_l v := w2
  replace w3 : M 69 9 = nI (v_g v) := w3
  replace w4 : M 69 17 = nI (v_y v) := w4
  replace w5 : M 69 24 = nI (v_ud v) := w5
  replace w6 : M 69 15 = nI (v_ya v) := w6
  replace w7 : M 69 16 = nI (v_yl v) := w7
  replace u1 : M 69 23 = nI (v_m v) := u1
  replace i1 : v_n v ≤ 100 := i1
  replace i2 : v_q v ≤ v_n v := i2
  replace iP1 : iP (v_n v) (v_P v) := iP1
  replace j1 : 1 ≤ v_t v := j1
  replace j2 : v_t v ≤ 9 := j2
  replace j3 : v_g v ≤ 100 := j3
  refine Or.inr ⟨((v.1.1, v.1.2.1, v_q v - v_t v), v.2.1, v.2.2.1, v.2.2.2.1, v.2.2.2.2.1, v.2.2.2.2.2.1, v.2.2.2.2.2.2.1, v.2.2.2.2.2.2.2), ⟨_, _, ?_, (ed_CF.rf hX).q (v_q v - v_t v)⟩, ⟨_, hM.q (v_q v - v_t v), fun K GM hGM => ?_⟩, ⟨⟨⟨i1, Nat.le_trans (Nat.sub_le _ _) i2⟩, iP1, iK1, iH1, ⟨Nat.le_refl 1, (by decide : 1 ≤ 9), j3⟩, iE1, iN1, iB1⟩, iC_no (k := 1) rfl (by decide)⟩, Nat.le_succ _, rfl⟩
  · have c := sE_co1 (E := E) hG a1 i1 a3 i2 t1 j2 (sE_moveTo hG)
    exact c
  · have c := sR_wk1 (sR_move1 (E := E) (J := mm_mx K M) hGM b1 i1 b3 i2 w1 j2)
    rw [mx_set (by decide)] at c
    exact c
theorem wp_4 {E : mm_E} {v : ed_V} {X : mm_J} {G : mm_G} {M : mm_J} (hX : ed_CX v X G) (hM : ed_CM v M) (hI : ed_I v) : ed_WP E 4 v X G M := by
  obtain ⟨hG, ⟨a1, a2, a3⟩, ⟨p1, p2, p3, p4⟩, hK, ⟨s1, s2⟩, ⟨t1, t2, t3, t4, t5⟩, hE, hN, hB⟩ := id hX
  obtain ⟨⟨b1, b2, b3⟩, ⟨o1, o2, o3⟩, hKm, ⟨u1, u2⟩, ⟨w1, w2, w3, w4, w5, w6, w7⟩, hEm, hNm, hBm⟩ := id hM
  obtain ⟨⟨⟨i1, i2⟩, iP1, iK1, iH1, ⟨j1, j2, j3⟩, iE1, iN1, iB1⟩, iC1⟩ := id hI
  replace a1 : X 2 1 = nI (v_n v) := a1
  replace a2 : ∀ i, i < v_n v → X 3 i = v_tx v i := a2
  replace a3 : X 1 3 = nI (v_q v) := a3
  replace p1 : X 4 4 = v_mk v := p1
  replace s1 : X 16 3 = nI (v_m v) := s1
  replace t1 : X 0 7 = nI (v_t v) := t1
  replace t2 : X 0 8 = v_l v := t2
  replace t3 : X 0 9 = nI (v_g v) := t3
  replace t4 : X 0 10 = nI (v_y v) := t4
  replace t5 : X 0 11 = nI (v_ud v) := t5
  replace b1 : M 69 3 = nI (v_n v) := b1
  replace b2 : ∀ i, i < v_n v → M 70 i = v_tx v i := b2
  replace b3 : M 69 5 = nI (v_q v) := b3
  replace o1 : M 69 6 = v_mk v := o1
  replace w1 : M 69 7 = nI (v_t v) := w1
  replace w2 : M 69 8 = v_l v := w2
  replace w3 : M 69 9 = nI (v_g v) := w3
  replace w4 : M 69 17 = nI (v_y v) := w4
  replace w5 : M 69 24 = nI (v_ud v) := w5
  replace w6 : M 69 15 = nI (v_ya v) := w6
  replace w7 : M 69 16 = nI (v_yl v) := w7
  replace u1 : M 69 23 = nI (v_m v) := u1
  replace i1 : v_n v ≤ 100 := i1
  replace i2 : v_q v ≤ v_n v := i2
  replace iP1 : iP (v_n v) (v_P v) := iP1
  replace j1 : 1 ≤ v_t v := j1
  replace j2 : v_t v ≤ 9 := j2
  replace j3 : v_g v ≤ 100 := j3
  refine Or.inr ⟨((v.1.1, v.1.2.1, ed_lb (v_tx v) (v_q v)), v.2.1, v.2.2.1, v.2.2.2.1, v.2.2.2.2.1, v.2.2.2.2.2.1, v.2.2.2.2.2.2.1, v.2.2.2.2.2.2.2), ⟨_, _, ?_, (ed_CF.rf hX).q (ed_lb (v_tx v) (v_q v))⟩, ⟨_, hM.q (ed_lb (v_tx v) (v_q v)), fun K GM hGM => ?_⟩, ⟨⟨⟨i1, Nat.le_trans ed_lb_le i2⟩, iP1, iK1, iH1, ⟨Nat.le_refl 1, (by decide : 1 ≤ 9), j3⟩, iE1, iN1, iB1⟩, iC_no (k := 4) rfl (by decide)⟩, Nat.le_succ _, rfl⟩
  · have c := sE_co4 (E := E) hG a1 i1 a3 i2 t1 j2 (sE_moveTo hG)
    rw [ed_eq.lb a2 i2] at c
    exact c
  · have c := sR_wk4 (sR_move4 (E := E) (J := mm_mx K M) hGM b1 i1 b3 i2 w1 j2)
    rw [mx_r (show 69 ≤ 70 by decide), ed_eq.lb b2 i2] at c
    rw [mx_set (by decide)] at c
    exact c
theorem wp_5 {E : mm_E} {v : ed_V} {X : mm_J} {G : mm_G} {M : mm_J} (hX : ed_CX v X G) (hM : ed_CM v M) (hI : ed_I v) : ed_WP E 5 v X G M := by
  obtain ⟨hG, ⟨a1, a2, a3⟩, ⟨p1, p2, p3, p4⟩, hK, ⟨s1, s2⟩, ⟨t1, t2, t3, t4, t5⟩, hE, hN, hB⟩ := id hX
  obtain ⟨⟨b1, b2, b3⟩, ⟨o1, o2, o3⟩, hKm, ⟨u1, u2⟩, ⟨w1, w2, w3, w4, w5, w6, w7⟩, hEm, hNm, hBm⟩ := id hM
  obtain ⟨⟨⟨i1, i2⟩, iP1, iK1, iH1, ⟨j1, j2, j3⟩, iE1, iN1, iB1⟩, iC1⟩ := id hI
  replace a1 : X 2 1 = nI (v_n v) := a1
  replace a2 : ∀ i, i < v_n v → X 3 i = v_tx v i := a2
  replace a3 : X 1 3 = nI (v_q v) := a3
  replace p1 : X 4 4 = v_mk v := p1
  replace s1 : X 16 3 = nI (v_m v) := s1
  replace t1 : X 0 7 = nI (v_t v) := t1
  replace t2 : X 0 8 = v_l v := t2
  replace t3 : X 0 9 = nI (v_g v) := t3
  replace t4 : X 0 10 = nI (v_y v) := t4
  replace t5 : X 0 11 = nI (v_ud v) := t5
  replace b1 : M 69 3 = nI (v_n v) := b1
  replace b2 : ∀ i, i < v_n v → M 70 i = v_tx v i := b2
  replace b3 : M 69 5 = nI (v_q v) := b3
  replace o1 : M 69 6 = v_mk v := o1
  replace w1 : M 69 7 = nI (v_t v) := w1
  replace w2 : M 69 8 = v_l v := w2
  replace w3 : M 69 9 = nI (v_g v) := w3
  replace w4 : M 69 17 = nI (v_y v) := w4
  replace w5 : M 69 24 = nI (v_ud v) := w5
  replace w6 : M 69 15 = nI (v_ya v) := w6
  replace w7 : M 69 16 = nI (v_yl v) := w7
  replace u1 : M 69 23 = nI (v_m v) := u1
  replace i1 : v_n v ≤ 100 := i1
  replace i2 : v_q v ≤ v_n v := i2
  replace iP1 : iP (v_n v) (v_P v) := iP1
  replace j1 : 1 ≤ v_t v := j1
  replace j2 : v_t v ≤ 9 := j2
  replace j3 : v_g v ≤ 100 := j3
  refine Or.inr ⟨((v.1.1, v.1.2.1, ed_le (v_tx v) (v_n v) (v_q v)), v.2.1, v.2.2.1, v.2.2.2.1, v.2.2.2.2.1, v.2.2.2.2.2.1, v.2.2.2.2.2.2.1, v.2.2.2.2.2.2.2), ⟨_, _, ?_, (ed_CF.rf hX).q (ed_le (v_tx v) (v_n v) (v_q v))⟩, ⟨_, hM.q (ed_le (v_tx v) (v_n v) (v_q v)), fun K GM hGM => ?_⟩, ⟨⟨⟨i1, (ed_le_le i2).2⟩, iP1, iK1, iH1, ⟨Nat.le_refl 1, (by decide : 1 ≤ 9), j3⟩, iE1, iN1, iB1⟩, iC_no (k := 5) rfl (by decide)⟩, Nat.le_succ _, rfl⟩
  · have c := sE_co5 (E := E) hG a1 i1 a3 i2 t1 j2 (sE_moveTo hG)
    rw [ed_eq.le a2 i2] at c
    exact c
  · have c := sR_wk5 (sR_move5 (E := E) (J := mm_mx K M) hGM b1 i1 b3 i2 w1 j2)
    rw [mx_r (show 69 ≤ 70 by decide), ed_eq.le b2 i2] at c
    rw [mx_set (by decide)] at c
    exact c
theorem wp_6 {E : mm_E} {v : ed_V} {X : mm_J} {G : mm_G} {M : mm_J} (hX : ed_CX v X G) (hM : ed_CM v M) (hI : ed_I v) : ed_WP E 6 v X G M := by
  obtain ⟨hG, ⟨a1, a2, a3⟩, ⟨p1, p2, p3, p4⟩, hK, ⟨s1, s2⟩, ⟨t1, t2, t3, t4, t5⟩, hE, hN, hB⟩ := id hX
  obtain ⟨⟨b1, b2, b3⟩, ⟨o1, o2, o3⟩, hKm, ⟨u1, u2⟩, ⟨w1, w2, w3, w4, w5, w6, w7⟩, hEm, hNm, hBm⟩ := id hM
  obtain ⟨⟨⟨i1, i2⟩, iP1, iK1, iH1, ⟨j1, j2, j3⟩, iE1, iN1, iB1⟩, iC1⟩ := id hI
  replace a1 : X 2 1 = nI (v_n v) := a1
  replace a2 : ∀ i, i < v_n v → X 3 i = v_tx v i := a2
  replace a3 : X 1 3 = nI (v_q v) := a3
  replace p1 : X 4 4 = v_mk v := p1
  replace s1 : X 16 3 = nI (v_m v) := s1
  replace t1 : X 0 7 = nI (v_t v) := t1
  replace t2 : X 0 8 = v_l v := t2
  replace t3 : X 0 9 = nI (v_g v) := t3
  replace t4 : X 0 10 = nI (v_y v) := t4
  replace t5 : X 0 11 = nI (v_ud v) := t5
  replace b1 : M 69 3 = nI (v_n v) := b1
  replace b2 : ∀ i, i < v_n v → M 70 i = v_tx v i := b2
  replace b3 : M 69 5 = nI (v_q v) := b3
  replace o1 : M 69 6 = v_mk v := o1
  replace w1 : M 69 7 = nI (v_t v) := w1
  replace w2 : M 69 8 = v_l v := w2
  replace w3 : M 69 9 = nI (v_g v) := w3
  replace w4 : M 69 17 = nI (v_y v) := w4
  replace w5 : M 69 24 = nI (v_ud v) := w5
  replace w6 : M 69 15 = nI (v_ya v) := w6
  replace w7 : M 69 16 = nI (v_yl v) := w7
  replace u1 : M 69 23 = nI (v_m v) := u1
  replace i1 : v_n v ≤ 100 := i1
  replace i2 : v_q v ≤ v_n v := i2
  replace iP1 : iP (v_n v) (v_P v) := iP1
  replace j1 : 1 ≤ v_t v := j1
  replace j2 : v_t v ≤ 9 := j2
  replace j3 : v_g v ≤ 100 := j3
  refine Or.inr ⟨((v.1.1, v.1.2.1, ed_fw (v_tx v) (v_n v) (v_t v) (v_q v)), v.2.1, v.2.2.1, v.2.2.2.1, v.2.2.2.2.1, v.2.2.2.2.2.1, v.2.2.2.2.2.2.1, v.2.2.2.2.2.2.2), ⟨_, _, ?_, (ed_CF.rf hX).q (ed_fw (v_tx v) (v_n v) (v_t v) (v_q v))⟩, ⟨_, hM.q (ed_fw (v_tx v) (v_n v) (v_t v) (v_q v)), fun K GM hGM => ?_⟩, ⟨⟨⟨i1, ed_fw_le _ _ i2⟩, iP1, iK1, iH1, ⟨Nat.le_refl 1, (by decide : 1 ≤ 9), j3⟩, iE1, iN1, iB1⟩, iC_no (k := 6) rfl (by decide)⟩, Nat.le_succ _, rfl⟩
  · have c := sE_co6 (E := E) hG a1 i1 a3 i2 t1 j2 (sE_moveTo hG)
    rw [ed_eq.fw a2 _ _ i2] at c
    exact c
  · have c := sR_wk6 (sR_move6 (E := E) (J := mm_mx K M) hGM b1 i1 b3 i2 w1 j2)
    rw [mx_r (show 69 ≤ 70 by decide), ed_eq.fw b2 _ _ i2] at c
    rw [mx_set (by decide)] at c
    exact c
theorem wp_7 {E : mm_E} {v : ed_V} {X : mm_J} {G : mm_G} {M : mm_J} (hX : ed_CX v X G) (hM : ed_CM v M) (hI : ed_I v) : ed_WP E 7 v X G M := by
  obtain ⟨hG, ⟨a1, a2, a3⟩, ⟨p1, p2, p3, p4⟩, hK, ⟨s1, s2⟩, ⟨t1, t2, t3, t4, t5⟩, hE, hN, hB⟩ := id hX
  obtain ⟨⟨b1, b2, b3⟩, ⟨o1, o2, o3⟩, hKm, ⟨u1, u2⟩, ⟨w1, w2, w3, w4, w5, w6, w7⟩, hEm, hNm, hBm⟩ := id hM
  obtain ⟨⟨⟨i1, i2⟩, iP1, iK1, iH1, ⟨j1, j2, j3⟩, iE1, iN1, iB1⟩, iC1⟩ := id hI
  replace a1 : X 2 1 = nI (v_n v) := a1
  replace a2 : ∀ i, i < v_n v → X 3 i = v_tx v i := a2
  replace a3 : X 1 3 = nI (v_q v) := a3
  replace p1 : X 4 4 = v_mk v := p1
  replace s1 : X 16 3 = nI (v_m v) := s1
  replace t1 : X 0 7 = nI (v_t v) := t1
  replace t2 : X 0 8 = v_l v := t2
  replace t3 : X 0 9 = nI (v_g v) := t3
  replace t4 : X 0 10 = nI (v_y v) := t4
  replace t5 : X 0 11 = nI (v_ud v) := t5
  replace b1 : M 69 3 = nI (v_n v) := b1
  replace b2 : ∀ i, i < v_n v → M 70 i = v_tx v i := b2
  replace b3 : M 69 5 = nI (v_q v) := b3
  replace o1 : M 69 6 = v_mk v := o1
  replace w1 : M 69 7 = nI (v_t v) := w1
  replace w2 : M 69 8 = v_l v := w2
  replace w3 : M 69 9 = nI (v_g v) := w3
  replace w4 : M 69 17 = nI (v_y v) := w4
  replace w5 : M 69 24 = nI (v_ud v) := w5
  replace w6 : M 69 15 = nI (v_ya v) := w6
  replace w7 : M 69 16 = nI (v_yl v) := w7
  replace u1 : M 69 23 = nI (v_m v) := u1
  replace i1 : v_n v ≤ 100 := i1
  replace i2 : v_q v ≤ v_n v := i2
  replace iP1 : iP (v_n v) (v_P v) := iP1
  replace j1 : 1 ≤ v_t v := j1
  replace j2 : v_t v ≤ 9 := j2
  replace j3 : v_g v ≤ 100 := j3
  refine Or.inr ⟨((v.1.1, v.1.2.1, ed_bw (v_tx v) (v_t v) (v_q v)), v.2.1, v.2.2.1, v.2.2.2.1, v.2.2.2.2.1, v.2.2.2.2.2.1, v.2.2.2.2.2.2.1, v.2.2.2.2.2.2.2), ⟨_, _, ?_, (ed_CF.rf hX).q (ed_bw (v_tx v) (v_t v) (v_q v))⟩, ⟨_, hM.q (ed_bw (v_tx v) (v_t v) (v_q v)), fun K GM hGM => ?_⟩, ⟨⟨⟨i1, Nat.le_trans (ed_bw_le _ _) i2⟩, iP1, iK1, iH1, ⟨Nat.le_refl 1, (by decide : 1 ≤ 9), j3⟩, iE1, iN1, iB1⟩, iC_no (k := 7) rfl (by decide)⟩, Nat.le_succ _, rfl⟩
  · have c := sE_co7 (E := E) hG a1 i1 a3 i2 t1 j2 (sE_moveTo hG)
    rw [ed_eq.bw a2 _ _ i2] at c
    exact c
  · have c := sR_wk7 (sR_move7 (E := E) (J := mm_mx K M) hGM b1 i1 b3 i2 w1 j2)
    rw [mx_r (show 69 ≤ 70 by decide), ed_eq.bw b2 _ _ i2] at c
    rw [mx_set (by decide)] at c
    exact c
theorem wp_2 {E : mm_E} {v : ed_V} {X : mm_J} {G : mm_G} {M : mm_J} (hX : ed_CX v X G) (hM : ed_CM v M) (hI : ed_I v) : ed_WP E 2 v X G M := by
  obtain ⟨hG, ⟨a1, a2, a3⟩, ⟨p1, p2, p3, p4⟩, hK, ⟨s1, s2⟩, ⟨t1, t2, t3, t4, t5⟩, hE, hN, hB⟩ := id hX
  obtain ⟨⟨b1, b2, b3⟩, ⟨o1, o2, o3⟩, hKm, ⟨u1, u2⟩, ⟨w1, w2, w3, w4, w5, w6, w7⟩, hEm, hNm, hBm⟩ := id hM
  obtain ⟨⟨⟨i1, i2⟩, iP1, iK1, iH1, ⟨j1, j2, j3⟩, iE1, iN1, iB1⟩, iC1⟩ := id hI
  replace a1 : X 2 1 = nI (v_n v) := a1
  replace a2 : ∀ i, i < v_n v → X 3 i = v_tx v i := a2
  replace a3 : X 1 3 = nI (v_q v) := a3
  replace p1 : X 4 4 = v_mk v := p1
  replace s1 : X 16 3 = nI (v_m v) := s1
  replace t1 : X 0 7 = nI (v_t v) := t1
  replace t2 : X 0 8 = v_l v := t2
  replace t3 : X 0 9 = nI (v_g v) := t3
  replace t4 : X 0 10 = nI (v_y v) := t4
  replace t5 : X 0 11 = nI (v_ud v) := t5
  replace b1 : M 69 3 = nI (v_n v) := b1
  replace b2 : ∀ i, i < v_n v → M 70 i = v_tx v i := b2
  replace b3 : M 69 5 = nI (v_q v) := b3
  replace o1 : M 69 6 = v_mk v := o1
  replace w1 : M 69 7 = nI (v_t v) := w1
  replace w2 : M 69 8 = v_l v := w2
  replace w3 : M 69 9 = nI (v_g v) := w3
  replace w4 : M 69 17 = nI (v_y v) := w4
  replace w5 : M 69 24 = nI (v_ud v) := w5
  replace w6 : M 69 15 = nI (v_ya v) := w6
  replace w7 : M 69 16 = nI (v_yl v) := w7
  replace u1 : M 69 23 = nI (v_m v) := u1
  replace i1 : v_n v ≤ 100 := i1
  replace i2 : v_q v ≤ v_n v := i2
  replace iP1 : iP (v_n v) (v_P v) := iP1
  replace j1 : 1 ≤ v_t v := j1
  replace j2 : v_t v ≤ 9 := j2
  replace j3 : v_g v ≤ 100 := j3
  have hb : ed_below (v_tx v) (v_n v) (v_t v) (ed_lb (v_tx v) (v_q v)) ≤ v_n v := (ed_below_le _ _ (Nat.le_trans ed_lb_le i2))
  have hb2 := ed_le_le (f := v_tx v) hb
  have ex : ed_below (X 3) (v_n v) (v_t v) (ed_lb (X 3) (v_q v)) = ed_below (v_tx v) (v_n v) (v_t v) (ed_lb (v_tx v) (v_q v)) := by rw [ed_eq.lb a2 i2, ed_eq.below a2 _ _ (Nat.le_trans ed_lb_le i2)]
  have em : ed_below (M 70) (v_n v) (v_t v) (ed_lb (M 70) (v_q v)) = ed_below (v_tx v) (v_n v) (v_t v) (ed_lb (v_tx v) (v_q v)) := by rw [ed_eq.lb b2 i2, ed_eq.below b2 _ _ (Nat.le_trans ed_lb_le i2)]
  by_cases hl : v_l v = nI 2 ∨ v_l v = nI 3
  · refine Or.inr ⟨((v.1.1, v.1.2.1, min (ed_below (v_tx v) (v_n v) (v_t v) (ed_lb (v_tx v) (v_q v)) + v_g v) (ed_le (v_tx v) (v_n v) (ed_below (v_tx v) (v_n v) (v_t v) (ed_lb (v_tx v) (v_q v))))), v.2.1, v.2.2.1, v.2.2.2.1, v.2.2.2.2.1, v.2.2.2.2.2.1, v.2.2.2.2.2.2.1, v.2.2.2.2.2.2.2), ⟨_, _, ?_, (ed_CF.rf hX).q (min (ed_below (v_tx v) (v_n v) (v_t v) (ed_lb (v_tx v) (v_q v)) + v_g v) (ed_le (v_tx v) (v_n v) (ed_below (v_tx v) (v_n v) (v_t v) (ed_lb (v_tx v) (v_q v)))))⟩, ⟨_, hM.q (min (ed_below (v_tx v) (v_n v) (v_t v) (ed_lb (v_tx v) (v_q v)) + v_g v) (ed_le (v_tx v) (v_n v) (ed_below (v_tx v) (v_n v) (v_t v) (ed_lb (v_tx v) (v_q v))))), fun K GM hGM => ?_⟩, ⟨⟨⟨i1, Nat.le_trans (Nat.min_le_right _ _) hb2.2⟩, iP1, iK1, iH1, ⟨Nat.le_refl 1, (by decide : 1 ≤ 9), j3⟩, iE1, iN1, iB1⟩, iC_no (k := 2) rfl (by decide)⟩, Nat.le_succ _, rfl⟩
    · have c := sE_co2 (E := E) hG a1 i1 a3 i2 t1 j2 (sE_moveToGoal2 hG a1 i1 a3 i2 (by rw [ex]; exact hb) (by rw [t2]; exact hl) t3 j3)
      rw [ex, ed_eq.le a2 hb] at c
      exact c
    · have c := sR_wk2 (sR_move2 (E := E) (J := mm_mx K M) hGM b1 i1 b3 i2 w1 j2 (sR_vertical2b (E := E) (J := mm_mx K M) hGM b1 i1 w1 j2 b3 i2 (by rw [← w2] at hl; exact hl) w3 j3))
      rw [mx_r (show 69 ≤ 70 by decide), em, ed_eq.le b2 hb, mx_set (by decide)] at c
      exact c
  · have hl1 : ¬ v_l v = nI 2 := fun q => hl (Or.inl q)
    have hl2 : ¬ v_l v = nI 3 := fun q => hl (Or.inr q)
    refine Or.inr ⟨((v.1.1, v.1.2.1, min (ed_below (v_tx v) (v_n v) (v_t v) (ed_lb (v_tx v) (v_q v)) + (v_q v - ed_lb (v_tx v) (v_q v))) (ed_le (v_tx v) (v_n v) (ed_below (v_tx v) (v_n v) (v_t v) (ed_lb (v_tx v) (v_q v))))), v.2.1, v.2.2.1, v.2.2.2.1, (v.2.2.2.2.1.1, v.2.2.2.2.1.2.1, v_q v - ed_lb (v_tx v) (v_q v), v.2.2.2.2.1.2.2.2.1, v.2.2.2.2.1.2.2.2.2.1, v.2.2.2.2.1.2.2.2.2.2.1, v.2.2.2.2.1.2.2.2.2.2.2), v.2.2.2.2.2.1, v.2.2.2.2.2.2.1, v.2.2.2.2.2.2.2), ⟨_, _, ?_, ((ed_CF.rf hX).g (v_q v - ed_lb (v_tx v) (v_q v))).q (min (ed_below (v_tx v) (v_n v) (v_t v) (ed_lb (v_tx v) (v_q v)) + (v_q v - ed_lb (v_tx v) (v_q v))) (ed_le (v_tx v) (v_n v) (ed_below (v_tx v) (v_n v) (v_t v) (ed_lb (v_tx v) (v_q v)))))⟩, ⟨_, (hM.g (v_q v - ed_lb (v_tx v) (v_q v))).q (min (ed_below (v_tx v) (v_n v) (v_t v) (ed_lb (v_tx v) (v_q v)) + (v_q v - ed_lb (v_tx v) (v_q v))) (ed_le (v_tx v) (v_n v) (ed_below (v_tx v) (v_n v) (v_t v) (ed_lb (v_tx v) (v_q v))))), fun K GM hGM => ?_⟩, ⟨⟨⟨i1, Nat.le_trans (Nat.min_le_right _ _) hb2.2⟩, iP1, iK1, iH1, ⟨Nat.le_refl 1, (by decide : 1 ≤ 9), Nat.le_trans (Nat.sub_le _ _) (Nat.le_trans i2 i1)⟩, iE1, iN1, iB1⟩, iC_no (k := 2) rfl (by decide)⟩, Nat.le_succ _, rfl⟩
    · have c := sE_co2 (E := E) hG a1 i1 a3 i2 t1 j2 (sE_moveToGoal1 hG a1 i1 a3 i2 (by rw [ex]; exact hb) (by rw [t2]; exact ⟨hl1, hl2⟩))
      rw [ex, ed_eq.le a2 hb, ed_eq.lb a2 i2] at c
      exact c
    · have c := sR_wk2 (sR_move2 (E := E) (J := mm_mx K M) hGM b1 i1 b3 i2 w1 j2 (sR_vertical2a (E := E) (J := mm_mx K M) hGM b1 i1 w1 j2 b3 i2 (by rw [← w2] at hl1 hl2; exact ⟨hl1, hl2⟩)))
      rw [mx_r (show 69 ≤ 70 by decide), em, ed_eq.le b2 hb, ed_eq.lb b2 i2, mx_set (by decide), mx_set (by decide)] at c
      exact c
theorem wp_3 {E : mm_E} {v : ed_V} {X : mm_J} {G : mm_G} {M : mm_J} (hX : ed_CX v X G) (hM : ed_CM v M) (hI : ed_I v) : ed_WP E 3 v X G M := by
  obtain ⟨hG, ⟨a1, a2, a3⟩, ⟨p1, p2, p3, p4⟩, hK, ⟨s1, s2⟩, ⟨t1, t2, t3, t4, t5⟩, hE, hN, hB⟩ := id hX
  obtain ⟨⟨b1, b2, b3⟩, ⟨o1, o2, o3⟩, hKm, ⟨u1, u2⟩, ⟨w1, w2, w3, w4, w5, w6, w7⟩, hEm, hNm, hBm⟩ := id hM
  obtain ⟨⟨⟨i1, i2⟩, iP1, iK1, iH1, ⟨j1, j2, j3⟩, iE1, iN1, iB1⟩, iC1⟩ := id hI
  replace a1 : X 2 1 = nI (v_n v) := a1
  replace a2 : ∀ i, i < v_n v → X 3 i = v_tx v i := a2
  replace a3 : X 1 3 = nI (v_q v) := a3
  replace p1 : X 4 4 = v_mk v := p1
  replace s1 : X 16 3 = nI (v_m v) := s1
  replace t1 : X 0 7 = nI (v_t v) := t1
  replace t2 : X 0 8 = v_l v := t2
  replace t3 : X 0 9 = nI (v_g v) := t3
  replace t4 : X 0 10 = nI (v_y v) := t4
  replace t5 : X 0 11 = nI (v_ud v) := t5
  replace b1 : M 69 3 = nI (v_n v) := b1
  replace b2 : ∀ i, i < v_n v → M 70 i = v_tx v i := b2
  replace b3 : M 69 5 = nI (v_q v) := b3
  replace o1 : M 69 6 = v_mk v := o1
  replace w1 : M 69 7 = nI (v_t v) := w1
  replace w2 : M 69 8 = v_l v := w2
  replace w3 : M 69 9 = nI (v_g v) := w3
  replace w4 : M 69 17 = nI (v_y v) := w4
  replace w5 : M 69 24 = nI (v_ud v) := w5
  replace w6 : M 69 15 = nI (v_ya v) := w6
  replace w7 : M 69 16 = nI (v_yl v) := w7
  replace u1 : M 69 23 = nI (v_m v) := u1
  replace i1 : v_n v ≤ 100 := i1
  replace i2 : v_q v ≤ v_n v := i2
  replace iP1 : iP (v_n v) (v_P v) := iP1
  replace j1 : 1 ≤ v_t v := j1
  replace j2 : v_t v ≤ 9 := j2
  replace j3 : v_g v ≤ 100 := j3
  have hb : ed_above (v_tx v) (v_t v) (ed_lb (v_tx v) (v_q v)) ≤ v_n v := (Nat.le_trans (ed_above_le _ _) (Nat.le_trans ed_lb_le i2))
  have hb2 := ed_le_le (f := v_tx v) hb
  have ex : ed_above (X 3) (v_t v) (ed_lb (X 3) (v_q v)) = ed_above (v_tx v) (v_t v) (ed_lb (v_tx v) (v_q v)) := by rw [ed_eq.lb a2 i2, ed_eq.above a2 _ _ (Nat.le_trans ed_lb_le i2)]
  have em : ed_above (M 70) (v_t v) (ed_lb (M 70) (v_q v)) = ed_above (v_tx v) (v_t v) (ed_lb (v_tx v) (v_q v)) := by rw [ed_eq.lb b2 i2, ed_eq.above b2 _ _ (Nat.le_trans ed_lb_le i2)]
  by_cases hl : v_l v = nI 2 ∨ v_l v = nI 3
  · refine Or.inr ⟨((v.1.1, v.1.2.1, min (ed_above (v_tx v) (v_t v) (ed_lb (v_tx v) (v_q v)) + v_g v) (ed_le (v_tx v) (v_n v) (ed_above (v_tx v) (v_t v) (ed_lb (v_tx v) (v_q v))))), v.2.1, v.2.2.1, v.2.2.2.1, v.2.2.2.2.1, v.2.2.2.2.2.1, v.2.2.2.2.2.2.1, v.2.2.2.2.2.2.2), ⟨_, _, ?_, (ed_CF.rf hX).q (min (ed_above (v_tx v) (v_t v) (ed_lb (v_tx v) (v_q v)) + v_g v) (ed_le (v_tx v) (v_n v) (ed_above (v_tx v) (v_t v) (ed_lb (v_tx v) (v_q v)))))⟩, ⟨_, hM.q (min (ed_above (v_tx v) (v_t v) (ed_lb (v_tx v) (v_q v)) + v_g v) (ed_le (v_tx v) (v_n v) (ed_above (v_tx v) (v_t v) (ed_lb (v_tx v) (v_q v))))), fun K GM hGM => ?_⟩, ⟨⟨⟨i1, Nat.le_trans (Nat.min_le_right _ _) hb2.2⟩, iP1, iK1, iH1, ⟨Nat.le_refl 1, (by decide : 1 ≤ 9), j3⟩, iE1, iN1, iB1⟩, iC_no (k := 3) rfl (by decide)⟩, Nat.le_succ _, rfl⟩
    · have c := sE_co3 (E := E) hG a1 i1 a3 i2 t1 j2 (sE_moveToGoal2 hG a1 i1 a3 i2 (by rw [ex]; exact hb) (by rw [t2]; exact hl) t3 j3)
      rw [ex, ed_eq.le a2 hb] at c
      exact c
    · have c := sR_wk3 (sR_move3 (E := E) (J := mm_mx K M) hGM b1 i1 b3 i2 w1 j2 (sR_vertical3b (E := E) (J := mm_mx K M) hGM b1 i1 w1 j2 b3 i2 (by rw [← w2] at hl; exact hl) w3 j3))
      rw [mx_r (show 69 ≤ 70 by decide), em, ed_eq.le b2 hb, mx_set (by decide)] at c
      exact c
  · have hl1 : ¬ v_l v = nI 2 := fun q => hl (Or.inl q)
    have hl2 : ¬ v_l v = nI 3 := fun q => hl (Or.inr q)
    refine Or.inr ⟨((v.1.1, v.1.2.1, min (ed_above (v_tx v) (v_t v) (ed_lb (v_tx v) (v_q v)) + (v_q v - ed_lb (v_tx v) (v_q v))) (ed_le (v_tx v) (v_n v) (ed_above (v_tx v) (v_t v) (ed_lb (v_tx v) (v_q v))))), v.2.1, v.2.2.1, v.2.2.2.1, (v.2.2.2.2.1.1, v.2.2.2.2.1.2.1, v_q v - ed_lb (v_tx v) (v_q v), v.2.2.2.2.1.2.2.2.1, v.2.2.2.2.1.2.2.2.2.1, v.2.2.2.2.1.2.2.2.2.2.1, v.2.2.2.2.1.2.2.2.2.2.2), v.2.2.2.2.2.1, v.2.2.2.2.2.2.1, v.2.2.2.2.2.2.2), ⟨_, _, ?_, ((ed_CF.rf hX).g (v_q v - ed_lb (v_tx v) (v_q v))).q (min (ed_above (v_tx v) (v_t v) (ed_lb (v_tx v) (v_q v)) + (v_q v - ed_lb (v_tx v) (v_q v))) (ed_le (v_tx v) (v_n v) (ed_above (v_tx v) (v_t v) (ed_lb (v_tx v) (v_q v)))))⟩, ⟨_, (hM.g (v_q v - ed_lb (v_tx v) (v_q v))).q (min (ed_above (v_tx v) (v_t v) (ed_lb (v_tx v) (v_q v)) + (v_q v - ed_lb (v_tx v) (v_q v))) (ed_le (v_tx v) (v_n v) (ed_above (v_tx v) (v_t v) (ed_lb (v_tx v) (v_q v))))), fun K GM hGM => ?_⟩, ⟨⟨⟨i1, Nat.le_trans (Nat.min_le_right _ _) hb2.2⟩, iP1, iK1, iH1, ⟨Nat.le_refl 1, (by decide : 1 ≤ 9), Nat.le_trans (Nat.sub_le _ _) (Nat.le_trans i2 i1)⟩, iE1, iN1, iB1⟩, iC_no (k := 3) rfl (by decide)⟩, Nat.le_succ _, rfl⟩
    · have c := sE_co3 (E := E) hG a1 i1 a3 i2 t1 j2 (sE_moveToGoal1 hG a1 i1 a3 i2 (by rw [ex]; exact hb) (by rw [t2]; exact ⟨hl1, hl2⟩))
      rw [ex, ed_eq.le a2 hb, ed_eq.lb a2 i2] at c
      exact c
    · have c := sR_wk3 (sR_move3 (E := E) (J := mm_mx K M) hGM b1 i1 b3 i2 w1 j2 (sR_vertical3a (E := E) (J := mm_mx K M) hGM b1 i1 w1 j2 b3 i2 (by rw [← w2] at hl1 hl2; exact ⟨hl1, hl2⟩)))
      rw [mx_r (show 69 ≤ 70 by decide), em, ed_eq.le b2 hb, ed_eq.lb b2 i2, mx_set (by decide), mx_set (by decide)] at c
      exact c
theorem wp_15 {E : mm_E} {v : ed_V} {X : mm_J} {G : mm_G} {M : mm_J} (hX : ed_CX v X G) (hM : ed_CM v M) (hI : ed_I v) : ed_WP E 15 v X G M := by
  obtain ⟨hG, ⟨a1, a2, a3⟩, ⟨p1, p2, p3, p4⟩, hK, ⟨s1, s2⟩, ⟨t1, t2, t3, t4, t5⟩, hE, hN, hB⟩ := id hX
  obtain ⟨⟨b1, b2, b3⟩, ⟨o1, o2, o3⟩, hKm, ⟨u1, u2⟩, ⟨w1, w2, w3, w4, w5, w6, w7⟩, hEm, hNm, hBm⟩ := id hM
  obtain ⟨⟨⟨i1, i2⟩, iP1, iK1, iH1, ⟨j1, j2, j3⟩, iE1, iN1, iB1⟩, iC1⟩ := id hI
  replace a1 : X 2 1 = nI (v_n v) := a1
  replace a2 : ∀ i, i < v_n v → X 3 i = v_tx v i := a2
  replace a3 : X 1 3 = nI (v_q v) := a3
  replace p1 : X 4 4 = v_mk v := p1
  replace s1 : X 16 3 = nI (v_m v) := s1
  replace t1 : X 0 7 = nI (v_t v) := t1
  replace t2 : X 0 8 = v_l v := t2
  replace t3 : X 0 9 = nI (v_g v) := t3
  replace t4 : X 0 10 = nI (v_y v) := t4
  replace t5 : X 0 11 = nI (v_ud v) := t5
  replace b1 : M 69 3 = nI (v_n v) := b1
  replace b2 : ∀ i, i < v_n v → M 70 i = v_tx v i := b2
  replace b3 : M 69 5 = nI (v_q v) := b3
  replace o1 : M 69 6 = v_mk v := o1
  replace w1 : M 69 7 = nI (v_t v) := w1
  replace w2 : M 69 8 = v_l v := w2
  replace w3 : M 69 9 = nI (v_g v) := w3
  replace w4 : M 69 17 = nI (v_y v) := w4
  replace w5 : M 69 24 = nI (v_ud v) := w5
  replace w6 : M 69 15 = nI (v_ya v) := w6
  replace w7 : M 69 16 = nI (v_yl v) := w7
  replace u1 : M 69 23 = nI (v_m v) := u1
  replace i1 : v_n v ≤ 100 := i1
  replace i2 : v_q v ≤ v_n v := i2
  replace iP1 : iP (v_n v) (v_P v) := iP1
  replace j1 : 1 ≤ v_t v := j1
  replace j2 : v_t v ≤ 9 := j2
  replace j3 : v_g v ≤ 100 := j3
  refine Or.inr ⟨(v.1, (nI (v_q v), v.2.1.2.1, v.2.1.2.2), v.2.2.1, v.2.2.2.1, v.2.2.2.2.1, v.2.2.2.2.2.1, v.2.2.2.2.2.2.1, v.2.2.2.2.2.2.2), ⟨_, _, ?_, (ed_CF.rf hX).mk (nI (v_q v))⟩, ⟨_, hM.mk (nI (v_q v)), fun K GM hGM => ?_⟩, ⟨⟨⟨i1, i2⟩, ⟨Or.inr ⟨v_q v, i2, rfl⟩, iP1.2⟩, iK1, iH1, ⟨Nat.le_refl 1, (by decide : 1 ≤ 9), j3⟩, iE1, iN1, iB1⟩, iC_no (k := 15) rfl (by decide)⟩, Nat.le_succ _, rfl⟩
  · have c := sE_co15 (E := E) hG (sE_setMark (J := X) (c := X 1 3) hG)
    rw [a3] at c
    exact c
  · have c := sR_wk15 (sR_move15 (E := E) (J := mm_mx K M) hGM b1 i1 b3 i2 w1 j2)
    rw [mx_set (by decide)] at c
    exact c
theorem wp_18 {E : mm_E} {v : ed_V} {X : mm_J} {G : mm_G} {M : mm_J} (hX : ed_CX v X G) (hM : ed_CM v M) (hI : ed_I v) : ed_WP E 18 v X G M := by
  obtain ⟨hG, ⟨a1, a2, a3⟩, ⟨p1, p2, p3, p4⟩, hK, ⟨s1, s2⟩, ⟨t1, t2, t3, t4, t5⟩, hE, hN, hB⟩ := id hX
  obtain ⟨⟨b1, b2, b3⟩, ⟨o1, o2, o3⟩, hKm, ⟨u1, u2⟩, ⟨w1, w2, w3, w4, w5, w6, w7⟩, hEm, hNm, hBm⟩ := id hM
  obtain ⟨⟨⟨i1, i2⟩, iP1, iK1, iH1, ⟨j1, j2, j3⟩, iE1, iN1, iB1⟩, iC1⟩ := id hI
  replace a1 : X 2 1 = nI (v_n v) := a1
  replace a2 : ∀ i, i < v_n v → X 3 i = v_tx v i := a2
  replace a3 : X 1 3 = nI (v_q v) := a3
  replace p1 : X 4 4 = v_mk v := p1
  replace s1 : X 16 3 = nI (v_m v) := s1
  replace t1 : X 0 7 = nI (v_t v) := t1
  replace t2 : X 0 8 = v_l v := t2
  replace t3 : X 0 9 = nI (v_g v) := t3
  replace t4 : X 0 10 = nI (v_y v) := t4
  replace t5 : X 0 11 = nI (v_ud v) := t5
  replace b1 : M 69 3 = nI (v_n v) := b1
  replace b2 : ∀ i, i < v_n v → M 70 i = v_tx v i := b2
  replace b3 : M 69 5 = nI (v_q v) := b3
  replace o1 : M 69 6 = v_mk v := o1
  replace w1 : M 69 7 = nI (v_t v) := w1
  replace w2 : M 69 8 = v_l v := w2
  replace w3 : M 69 9 = nI (v_g v) := w3
  replace w4 : M 69 17 = nI (v_y v) := w4
  replace w5 : M 69 24 = nI (v_ud v) := w5
  replace w6 : M 69 15 = nI (v_ya v) := w6
  replace w7 : M 69 16 = nI (v_yl v) := w7
  replace u1 : M 69 23 = nI (v_m v) := u1
  replace i1 : v_n v ≤ 100 := i1
  replace i2 : v_q v ≤ v_n v := i2
  replace iP1 : iP (v_n v) (v_P v) := iP1
  replace j1 : 1 ≤ v_t v := j1
  replace j2 : v_t v ≤ 9 := j2
  replace j3 : v_g v ≤ 100 := j3
  refine Or.inr ⟨((v.1.1, v.1.2.1, 0), (nI (v_n v), v.2.1.2.1, v.2.1.2.2), v.2.2.1, v.2.2.2.1, v.2.2.2.2.1, v.2.2.2.2.2.1, v.2.2.2.2.2.2.1, v.2.2.2.2.2.2.2), ⟨_, _, ?_, ((ed_CF.rf hX).q 0).mk (nI (v_n v))⟩, ⟨_, (hM.q 0).mk (nI (v_n v)), fun K GM hGM => ?_⟩, ⟨⟨⟨i1, Nat.zero_le _⟩, ⟨Or.inr ⟨v_n v, Nat.le_refl _, rfl⟩, iP1.2⟩, iK1, iH1, ⟨Nat.le_refl 1, (by decide : 1 ≤ 9), j3⟩, iE1, iN1, iB1⟩, iC_no (k := 18) rfl (by decide)⟩, Nat.le_succ _, rfl⟩
  · exact sE_co18 (E := E) hG a1 (sE_setMark hG)
  · have c := sR_wk18 (sR_move18 (E := E) (J := mm_mx K M) hGM b1 i1 b3 i2 w1 j2)
    rw [mx_set (by decide), mx_set (by decide)] at c
    exact c
theorem wp_16 {E : mm_E} {v : ed_V} {X : mm_J} {G : mm_G} {M : mm_J} (hX : ed_CX v X G) (hM : ed_CM v M) (hI : ed_I v) : ed_WP E 16 v X G M := by
  obtain ⟨hG, ⟨a1, a2, a3⟩, ⟨p1, p2, p3, p4⟩, hK, ⟨s1, s2⟩, ⟨t1, t2, t3, t4, t5⟩, hE, hN, hB⟩ := id hX
  obtain ⟨⟨b1, b2, b3⟩, ⟨o1, o2, o3⟩, hKm, ⟨u1, u2⟩, ⟨w1, w2, w3, w4, w5, w6, w7⟩, hEm, hNm, hBm⟩ := id hM
  obtain ⟨⟨⟨i1, i2⟩, iP1, iK1, iH1, ⟨j1, j2, j3⟩, iE1, iN1, iB1⟩, iC1⟩ := id hI
  replace a1 : X 2 1 = nI (v_n v) := a1
  replace a2 : ∀ i, i < v_n v → X 3 i = v_tx v i := a2
  replace a3 : X 1 3 = nI (v_q v) := a3
  replace p1 : X 4 4 = v_mk v := p1
  replace s1 : X 16 3 = nI (v_m v) := s1
  replace t1 : X 0 7 = nI (v_t v) := t1
  replace t2 : X 0 8 = v_l v := t2
  replace t3 : X 0 9 = nI (v_g v) := t3
  replace t4 : X 0 10 = nI (v_y v) := t4
  replace t5 : X 0 11 = nI (v_ud v) := t5
  replace b1 : M 69 3 = nI (v_n v) := b1
  replace b2 : ∀ i, i < v_n v → M 70 i = v_tx v i := b2
  replace b3 : M 69 5 = nI (v_q v) := b3
  replace o1 : M 69 6 = v_mk v := o1
  replace w1 : M 69 7 = nI (v_t v) := w1
  replace w2 : M 69 8 = v_l v := w2
  replace w3 : M 69 9 = nI (v_g v) := w3
  replace w4 : M 69 17 = nI (v_y v) := w4
  replace w5 : M 69 24 = nI (v_ud v) := w5
  replace w6 : M 69 15 = nI (v_ya v) := w6
  replace w7 : M 69 16 = nI (v_yl v) := w7
  replace u1 : M 69 23 = nI (v_m v) := u1
  replace i1 : v_n v ≤ 100 := i1
  replace i2 : v_q v ≤ v_n v := i2
  replace iP1 : iP (v_n v) (v_P v) := iP1
  replace j1 : 1 ≤ v_t v := j1
  replace j2 : v_t v ≤ 9 := j2
  replace j3 : v_g v ≤ 100 := j3
  rcases id iP1.1 with hk | ⟨k, hk1, hk2⟩
  · exact Or.inl ⟨-2, by decide, ⟨_, _, sE_co16 hG (sE_swapMark0 hG (p1.trans hk)), ed_CF.rf hX⟩, ⟨_, hM, fun K GM hGM => sR_wk16 (sR_exchange0 (o1.trans hk))⟩⟩
  · refine Or.inr ⟨((v.1.1, v.1.2.1, k), (nI (v_q v), v.2.1.2.1, v.2.1.2.2), v.2.2.1, v.2.2.2.1, v.2.2.2.2.1, v.2.2.2.2.2.1, v.2.2.2.2.2.2.1, v.2.2.2.2.2.2.2), ⟨_, _, ?_, ((ed_CF.rf hX).mk (nI (v_q v))).q k⟩, ⟨_, (hM.mk (nI (v_q v))).q k, fun K GM hGM => ?_⟩, ⟨⟨⟨i1, hk1⟩, ⟨Or.inr ⟨v_q v, i2, rfl⟩, iP1.2⟩, iK1, iH1, ⟨Nat.le_refl 1, (by decide : 1 ≤ 9), j3⟩, iE1, iN1, iB1⟩, iC_no (k := 16) rfl (by decide)⟩, Nat.le_succ _, rfl⟩
    · have c := sE_co16 (E := E) hG (sE_swapMark1 hG (p1.trans hk2) (by omega))
      rw [a3] at c
      exact c
    · have c := sR_wk16 (sR_exchange1 (E := E) (G := GM) (J := mm_mx K M) (o1.trans hk2) (by omega))
      rw [mx_set (by decide), mx_set (by decide), show mm_mx K M 69 5 = nI (v_q v) from b3] at c
      exact c
theorem wp_20 {E : mm_E} {v : ed_V} {X : mm_J} {G : mm_G} {M : mm_J} (hX : ed_CX v X G) (hM : ed_CM v M) (hI : ed_I v) : ed_WP E 20 v X G M := by
  obtain ⟨hG, ⟨a1, a2, a3⟩, ⟨p1, p2, p3, p4⟩, hK, ⟨s1, s2⟩, ⟨t1, t2, t3, t4, t5⟩, hE, hN, hB⟩ := id hX
  obtain ⟨⟨b1, b2, b3⟩, ⟨o1, o2, o3⟩, hKm, ⟨u1, u2⟩, ⟨w1, w2, w3, w4, w5, w6, w7⟩, hEm, hNm, hBm⟩ := id hM
  obtain ⟨⟨⟨i1, i2⟩, iP1, iK1, iH1, ⟨j1, j2, j3⟩, iE1, iN1, iB1⟩, iC1⟩ := id hI
  replace a1 : X 2 1 = nI (v_n v) := a1
  replace a2 : ∀ i, i < v_n v → X 3 i = v_tx v i := a2
  replace a3 : X 1 3 = nI (v_q v) := a3
  replace p1 : X 4 4 = v_mk v := p1
  replace s1 : X 16 3 = nI (v_m v) := s1
  replace t1 : X 0 7 = nI (v_t v) := t1
  replace t2 : X 0 8 = v_l v := t2
  replace t3 : X 0 9 = nI (v_g v) := t3
  replace t4 : X 0 10 = nI (v_y v) := t4
  replace t5 : X 0 11 = nI (v_ud v) := t5
  replace b1 : M 69 3 = nI (v_n v) := b1
  replace b2 : ∀ i, i < v_n v → M 70 i = v_tx v i := b2
  replace b3 : M 69 5 = nI (v_q v) := b3
  replace o1 : M 69 6 = v_mk v := o1
  replace w1 : M 69 7 = nI (v_t v) := w1
  replace w2 : M 69 8 = v_l v := w2
  replace w3 : M 69 9 = nI (v_g v) := w3
  replace w4 : M 69 17 = nI (v_y v) := w4
  replace w5 : M 69 24 = nI (v_ud v) := w5
  replace w6 : M 69 15 = nI (v_ya v) := w6
  replace w7 : M 69 16 = nI (v_yl v) := w7
  replace u1 : M 69 23 = nI (v_m v) := u1
  replace i1 : v_n v ≤ 100 := i1
  replace i2 : v_q v ≤ v_n v := i2
  replace iP1 : iP (v_n v) (v_P v) := iP1
  replace j1 : 1 ≤ v_t v := j1
  replace j2 : v_t v ≤ 9 := j2
  replace j3 : v_g v ≤ 100 := j3
  obtain ⟨c1, r0, r1, r2, r3, k0, k1, k2, k3, hd⟩ := xK.rows hK
  obtain ⟨d1, d2⟩ := id hKm
  replace c1 : X 6 1 = nI (v_kc v) := c1
  replace d1 : M 69 14 = nI (v_kc v) := d1
  replace d2 : ∀ i, i < 4 → M 76 i = nI (v_kl v i) ∧ ∀ j, j < v_kl v i → M 75 (i * 100 + j) = v_kt v i j := d2
  replace k0 : ed_kr X G 0 r0 (v_kl v 0) (v_kt v 0) := k0
  replace k1 : ed_kr X G 1 r1 (v_kl v 1) (v_kt v 1) := k1
  replace k2 : ed_kr X G 2 r2 (v_kl v 2) (v_kt v 2) := k2
  replace k3 : ed_kr X G 3 r3 (v_kl v 3) (v_kt v 3) := k3
  have q1 : v_kc v ≤ 4 := iK1.1
  have q2 : ∀ i, i < 4 → v_kl v i ≤ 100 := iK1.2
  by_cases hc : v_kc v = 0
  · exact Or.inl ⟨-2, by decide, ⟨_, _, sE_co20 hG (sE_search0 hG (c1.trans (congrArg nI hc))), ed_CF.rf hX⟩, ⟨_, hM, fun K GM hGM => sR_wk20 (sR_search0 (d1.trans (congrArg nI hc)))⟩⟩
  · have hl := q2 0 (by decide)
    have ex := ed_eq.sr (f := X 3) (f' := v_tx v) (g := X (r0 + 1)) (g' := v_kt v 0) a2 k0.2.2.2 (v_n v + 1 - (v_q v + v_kl v 0)) (v_q v)
    have em := ed_eq.sr (n := v_n v) (l := v_kl v 0) (f := M 70) (f' := v_tx v) (g := M 75) (g' := v_kt v 0) b2 (fun i hi => by
      have := (d2 0 (by decide)).2 i hi
      rw [show 0 * 100 + i = i by omega] at this
      exact this) (v_n v + 1 - (v_q v + v_kl v 0)) (v_q v)
    have cX := sE_co20 (E := E) hG (sE_search1 hG a1 i1 k0.2.1.sh.1 k0.2.2.1 hl c1 (by omega) iK1.1 k0.1 a3 i2)
    have cM : ∀ K GM, mm_GI GM → _ := fun K GM hGM => sR_wk20 (sR_search1 (E := E) (G := GM) (J := mm_mx K M) hGM b1 i1 (d2 0 (by decide)).1 hl d1 (by omega) iK1.1 b3 i2)
    by_cases hs : v_q v + v_kl v 0 ≤ v_n v
    · rw [ex (by omega)] at cX
      have cM2 : ∀ K GM, mm_GI GM → mm_Ret E qR_work [.ref 69, .int (nI 20)] 86 (mm_mx K M) GM (some (.int (ed_srR (ed_sr (v_tx v) (v_kt v 0) (v_kl v 0) (v_n v + 1 - (v_q v + v_kl v 0)) (v_q v))))) 86 (mm_mx K (ed_srK M (v_kl v 0) (ed_sr (v_tx v) (v_kt v 0) (v_kl v 0) (v_n v + 1 - (v_q v + v_kl v 0)) (v_q v)))) GM := fun K GM hGM => by
        have c := cM K GM hGM
        rw [mx_r (show 69 ≤ 70 by decide), mx_r (show 69 ≤ 75 by decide), em (by omega), mx_srK] at c
        exact c
      cases hr : ed_sr (v_tx v) (v_kt v 0) (v_kl v 0) (v_n v + 1 - (v_q v + v_kl v 0)) (v_q v) with
      | none =>
        rw [hr] at cX
        rw [hr] at cM2
        exact Or.inl ⟨-2, by decide, ⟨_, _, cX, ed_CF.rf hX⟩, ⟨_, hM, cM2⟩⟩
      | some x =>
        rw [hr] at cX
        rw [hr] at cM2
        have hx := ed_sr_le _ _ _ hr
        exact Or.inr ⟨((v.1.1, v.1.2.1, x + v_kl v 0), v.2.1, v.2.2.1, v.2.2.2.1, v.2.2.2.2.1, v.2.2.2.2.2.1, v.2.2.2.2.2.2.1, v.2.2.2.2.2.2.2), ⟨_, _, cX, (ed_CF.rf hX).q (x + v_kl v 0)⟩, ⟨_, hM.q (x + v_kl v 0), cM2⟩, ⟨⟨⟨i1, (show x + v_kl v 0 ≤ v_n v by omega)⟩, iP1, iK1, iH1, ⟨Nat.le_refl 1, (by decide : 1 ≤ 9), j3⟩, iE1, iN1, iB1⟩, iC_no (k := 20) rfl (by decide)⟩, Nat.le_succ _, rfl⟩
    · have h0 : v_n v + 1 - (v_q v + v_kl v 0) = 0 := by omega
      rw [h0] at cX
      exact Or.inl ⟨-2, by decide, ⟨_, _, cX, ed_CF.rf hX⟩, ⟨_, hM, fun K GM hGM => by
        have c := cM K GM hGM
        rw [h0] at c
        exact c⟩⟩
