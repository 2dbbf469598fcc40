theorem wp_17 {E : mm_E} {v : ed_V} {X : mm_J} {G : mm_G} {M : mm_J} (hX : ed_CX v X G) (hM : ed_CM v M) (hI : ed_I v) (hm : v_m v < 2 ^ 29) : ed_WP E 17 v X G M := by
  obtain ⟨hG, ⟨a1, a2, a3⟩, ⟨p1, p2, p3, p4⟩, hK, ⟨s1, s2⟩, ⟨t1, t2, t3, t4, t5⟩, hE, hN, hB⟩ := id hX
  obtain ⟨⟨b1, b2, b3⟩, ⟨o1, o2, o3⟩, hKm, ⟨u1, u2⟩, ⟨w1, w2, w3, w4, w5, w6, w7⟩, hEm, hNm, hBm⟩ := id hM
  obtain ⟨⟨⟨i1, i2⟩, iP1, iK1, iH1, ⟨j1, j2, j3⟩, iE1, iN1, iB1⟩, iC1⟩ := id hI
  replace a1 : X 2 1 = nI (v_n v) := a1
  replace a2 : ∀ i, i < v_n v → X 3 i = v_tx v i := a2
  replace a3 : X 1 3 = nI (v_q v) := a3
  replace p1 : X 4 4 = v_mk v := p1
  replace s1 : X 16 3 = nI (v_m v) := s1
  replace t1 : X 0 7 = nI (v_t v) := t1
  replace t2 : X 0 8 = v_l v := t2
  replace t3 : X 0 9 = nI (v_g v) := t3
  replace t4 : X 0 10 = nI (v_y v) := t4
  replace t5 : X 0 11 = nI (v_ud v) := t5
  replace b1 : M 69 3 = nI (v_n v) := b1
  replace b2 : ∀ i, i < v_n v → M 70 i = v_tx v i := b2
  replace b3 : M 69 5 = nI (v_q v) := b3
  replace o1 : M 69 6 = v_mk v := o1
  replace w1 : M 69 7 = nI (v_t v) := w1
  replace w2 : M 69 8 = v_l v := w2
  replace w3 : M 69 9 = nI (v_g v) := w3
  replace w4 : M 69 17 = nI (v_y v) := w4
  replace w5 : M 69 24 = nI (v_ud v) := w5
  replace w6 : M 69 15 = nI (v_ya v) := w6
  replace w7 : M 69 16 = nI (v_yl v) := w7
  replace u1 : M 69 23 = nI (v_m v) := u1
  replace i1 : v_n v ≤ 100 := i1
  replace i2 : v_q v ≤ v_n v := i2
  replace iP1 : iP (v_n v) (v_P v) := iP1
  replace j1 : 1 ≤ v_t v := j1
  replace j2 : v_t v ≤ 9 := j2
  replace j3 : v_g v ≤ 100 := j3
  have hT := ed_TI_of hX hI hm
  have hR := ed_RB_of hM hI hm
  by_cases h0 : v_q v = 0 ∨ v_q v = v_n v
  · exact Or.inl ⟨-2, by decide, ⟨_, _, sE_co17 hG (sE_swapCharacters0 hG hT a3 i2 h0), ed_CF.rf hX⟩, ⟨_, hM, fun K GM hGM => sR_wk17 (sR_swap0 (J := mm_mx K M) hGM hR b3 i2 h0)⟩⟩
  · refine Or.inr ⟨(((ed_vE v (fun i => if i = 0 then v_tx v (v_q v) else v_tx v (v_q v - 1)) (v_q v - 1) 2 2).1.1, (ed_vE v (fun i => if i = 0 then v_tx v (v_q v) else v_tx v (v_q v - 1)) (v_q v - 1) 2 2).1.2.1, v_q v + 1), (ed_vE v (fun i => if i = 0 then v_tx v (v_q v) else v_tx v (v_q v - 1)) (v_q v - 1) 2 2).2.1, (ed_vE v (fun i => if i = 0 then v_tx v (v_q v) else v_tx v (v_q v - 1)) (v_q v - 1) 2 2).2.2.1, (ed_vE v (fun i => if i = 0 then v_tx v (v_q v) else v_tx v (v_q v - 1)) (v_q v - 1) 2 2).2.2.2.1, (ed_vE v (fun i => if i = 0 then v_tx v (v_q v) else v_tx v (v_q v - 1)) (v_q v - 1) 2 2).2.2.2.2.1, (ed_vE v (fun i => if i = 0 then v_tx v (v_q v) else v_tx v (v_q v - 1)) (v_q v - 1) 2 2).2.2.2.2.2.1, (ed_vE v (fun i => if i = 0 then v_tx v (v_q v) else v_tx v (v_q v - 1)) (v_q v - 1) 2 2).2.2.2.2.2.2.1, (ed_vE v (fun i => if i = 0 then v_tx v (v_q v) else v_tx v (v_q v - 1)) (v_q v - 1) 2 2).2.2.2.2.2.2.2), ⟨_, _, sE_co17 hG (sE_swapCharacters1 hG hT a3 i2 (by omega) (by omega)), (((ed_CF.rf hX).dr (fun a h1 h2 => by rw [mm_set_ne _ _ _ h1, mm_set_ne _ _ _ h2, mm_set_ne _ _ _ h1, mm_set_ne _ _ _ h2, mm_set_ne _ _ _ h1])).edit (x := 67) (p := v_q v - 1) (d := 2) (s := 2) (fr := (fun i => if i = 0 then v_tx v (v_q v) else v_tx v (v_q v - 1))) ⟨by decide, Or.inr rfl⟩ (fun i hi => ?_) (by omega)).q (v_q v + 1)⟩, ⟨_, (ed_CM.edit (M := mm_set (mm_set (mm_set M 69 4 (nI 2)) 72 0 (M 70 (v_q v))) 72 1 (M 70 (v_q v - 1))) (v := v) hM (p := v_q v - 1) (d := 2) (s := 2) (fr := (fun i => if i = 0 then v_tx v (v_q v) else v_tx v (v_q v - 1))) (fun i hi => ?_) i1 (by omega) iH1.hb).q (v_q v + 1), fun K GM hGM => ?_⟩, ⟨ed_I0.ed hI.1 (by omega) (by omega) (by omega) (iP1.1.mv i1 (by omega)) ⟨Nat.le_refl 1, (by decide : 1 ≤ 9), j3⟩, iC_no (k := 17) rfl (by decide)⟩, Nat.le_refl _, rfl⟩
    · obtain rfl | rfl : i = 0 ∨ i = 1 := by omega
      · exact a2 (v_q v) (by omega)
      · exact a2 (v_q v - 1) (by omega)
    · obtain rfl | rfl : i = 0 ∨ i = 1 := by omega
      · exact b2 (v_q v) (by omega)
      · exact b2 (v_q v - 1) (by omega)
    · have c := sR_wk17 (sR_swap1 (E := E) (J := mm_mx K M) hGM hR b3 i2 (by omega) (by omega))
      rw [mx_r (show 69 ≤ 70 by decide), mx_set (by decide), mx_set (by decide), mx_set (by decide), mx_RS, mx_set (by decide), show v_q v - 1 + 2 = v_q v + 1 by omega] at c
      exact c
theorem wp_19 {E : mm_E} {v : ed_V} {X : mm_J} {G : mm_G} {M : mm_J} (hX : ed_CX v X G) (hM : ed_CM v M) (hI : ed_I v) (hm : v_m v < 2 ^ 29) : ed_WP E 19 v X G M := by
  obtain ⟨hG, ⟨a1, a2, a3⟩, ⟨p1, p2, p3, p4⟩, hK, ⟨s1, s2⟩, ⟨t1, t2, t3, t4, t5⟩, hE, hN, hB⟩ := id hX
  obtain ⟨⟨b1, b2, b3⟩, ⟨o1, o2, o3⟩, hKm, ⟨u1, u2⟩, ⟨w1, w2, w3, w4, w5, w6, w7⟩, hEm, hNm, hBm⟩ := id hM
  obtain ⟨⟨⟨i1, i2⟩, iP1, iK1, iH1, ⟨j1, j2, j3⟩, iE1, iN1, iB1⟩, iC1⟩ := id hI
  replace a1 : X 2 1 = nI (v_n v) := a1
  replace a2 : ∀ i, i < v_n v → X 3 i = v_tx v i := a2
  replace a3 : X 1 3 = nI (v_q v) := a3
  replace p1 : X 4 4 = v_mk v := p1
  replace s1 : X 16 3 = nI (v_m v) := s1
  replace t1 : X 0 7 = nI (v_t v) := t1
  replace t2 : X 0 8 = v_l v := t2
  replace t3 : X 0 9 = nI (v_g v) := t3
  replace t4 : X 0 10 = nI (v_y v) := t4
  replace t5 : X 0 11 = nI (v_ud v) := t5
  replace b1 : M 69 3 = nI (v_n v) := b1
  replace b2 : ∀ i, i < v_n v → M 70 i = v_tx v i := b2
  replace b3 : M 69 5 = nI (v_q v) := b3
  replace o1 : M 69 6 = v_mk v := o1
  replace w1 : M 69 7 = nI (v_t v) := w1
  replace w2 : M 69 8 = v_l v := w2
  replace w3 : M 69 9 = nI (v_g v) := w3
  replace w4 : M 69 17 = nI (v_y v) := w4
  replace w5 : M 69 24 = nI (v_ud v) := w5
  replace w6 : M 69 15 = nI (v_ya v) := w6
  replace w7 : M 69 16 = nI (v_yl v) := w7
  replace u1 : M 69 23 = nI (v_m v) := u1
  replace i1 : v_n v ≤ 100 := i1
  replace i2 : v_q v ≤ v_n v := i2
  replace iP1 : iP (v_n v) (v_P v) := iP1
  replace j1 : 1 ≤ v_t v := j1
  replace j2 : v_t v ≤ 9 := j2
  replace j3 : v_g v ≤ 100 := j3
  have hT := ed_TI_of hX hI hm
  have hR := ed_RB_of hM hI hm
  have hex : ∃ u, ((X 0 8 = nI 19 ∧ X 0 11 = nI (u + 1)) ∨ (¬ X 0 8 = nI 19 ∧ u = v_m v)) ∧ ((M 69 8 = nI 19 ∧ M 69 24 = nI (u + 1)) ∨ (¬ M 69 8 = nI 19 ∧ u = v_m v)) ∧ u ≤ v_m v ∧ (1 ≤ u → v_m v < u + 20 → (v_sa v (u % 20)) + (v_sp v (u % 20)) ≤ v_n v ∧ v_n v + (v_st v (u % 20)) = v_sb v (u % 20) + (v_sp v (u % 20))) := by
    by_cases hl : v_l v = nI 19
    · obtain ⟨z1, z2, z3⟩ := iC1.2.2 hl
      refine ⟨v_ud v - 1, Or.inl ⟨t2.trans hl, ?_⟩, Or.inl ⟨w2.trans hl, ?_⟩, by omega, fun h1 h2 => ?_⟩
      · rw [t5, show v_ud v - 1 + 1 = v_ud v by omega]
      · rw [w5, show v_ud v - 1 + 1 = v_ud v by omega]
      · have c := iH1.2.2 (v_ud v - 1) h1 (by show v_ud v - 1 + 1 ≤ v_m v; omega) h2
        rw [show v_ud v - 1 + 1 = v_ud v by omega] at c
        rw [z3 (by omega)]
        exact c
    · exact ⟨v_m v, Or.inr ⟨by rw [t2]; exact hl, rfl⟩, Or.inr ⟨by rw [w2]; exact hl, rfl⟩, Nat.le_refl _, fun h1 _ => iH1.2.1 h1⟩
  obtain ⟨u, hx, hy, hum, hfit⟩ := hex
  by_cases h0 : u = 0 ∨ u + 20 ≤ v_m v
  · exact Or.inl ⟨-2, by decide, ⟨_, _, sE_co19 hG (sE_undo0 hG hT hx h0 hum), ed_CF.rf hX⟩, ⟨_, hM, fun K GM hGM => sR_wk19 (sR_undo0 (J := mm_mx K M) hGM hR hy h0 hum)⟩⟩
  · have hk : u % 20 < 20 := Nat.mod_lt _ (by decide)
    obtain ⟨f1, f2⟩ := hfit (by omega) (by omega)
    obtain ⟨g1, g2, g3⟩ := iH1.1 (u % 20) hk
    replace g1 : (v_sp v (u % 20)) ≤ 100 := g1
    replace g2 : (v_sa v (u % 20)) + (v_st v (u % 20)) ≤ v_sb v (u % 20) := g2
    replace g3 : v_sb v (u % 20) ≤ 100 := g3
    obtain ⟨x1, x2, x3, x4⟩ := s2 (u % 20) hk
    obtain ⟨y1, y2, y3, y4⟩ := u2 (u % 20) hk
    replace x1 : X 17 (u % 20) = nI (v_sa v (u % 20)) := x1
    replace x2 : X 18 (u % 20) = nI (v_sp v (u % 20)) := x2
    replace x3 : X (20 + 2 * (u % 20)) 1 = nI (v_st v (u % 20)) := x3
    replace y1 : M 79 (u % 20) = nI (v_sa v (u % 20)) := y1
    replace y2 : M 81 (u % 20) = nI (v_sp v (u % 20)) := y2
    replace y3 : M 80 (u % 20) = nI (v_st v (u % 20)) := y3
    replace x4 : ∀ i, i < (v_st v (u % 20)) → X (20 + 2 * (u % 20) + 1) i = v_sx v (u % 20) i := x4
    replace y4 : ∀ i, i < (v_st v (u % 20)) → M 77 (u % 20 * 100 + (v_sa v (u % 20)) + i) = v_sx v (u % 20) i := y4
    refine Or.inr ⟨(((ed_vE v (v_sx v (u % 20)) (v_sa v (u % 20)) (v_sp v (u % 20)) (v_st v (u % 20))).1.1, (ed_vE v (v_sx v (u % 20)) (v_sa v (u % 20)) (v_sp v (u % 20)) (v_st v (u % 20))).1.2.1, (v_sa v (u % 20)) + (v_st v (u % 20))), (ed_vE v (v_sx v (u % 20)) (v_sa v (u % 20)) (v_sp v (u % 20)) (v_st v (u % 20))).2.1, (ed_vE v (v_sx v (u % 20)) (v_sa v (u % 20)) (v_sp v (u % 20)) (v_st v (u % 20))).2.2.1, (ed_vE v (v_sx v (u % 20)) (v_sa v (u % 20)) (v_sp v (u % 20)) (v_st v (u % 20))).2.2.2.1, ((ed_vE v (v_sx v (u % 20)) (v_sa v (u % 20)) (v_sp v (u % 20)) (v_st v (u % 20))).2.2.2.2.1.1, (ed_vE v (v_sx v (u % 20)) (v_sa v (u % 20)) (v_sp v (u % 20)) (v_st v (u % 20))).2.2.2.2.1.2.1, (ed_vE v (v_sx v (u % 20)) (v_sa v (u % 20)) (v_sp v (u % 20)) (v_st v (u % 20))).2.2.2.2.1.2.2.1, (ed_vE v (v_sx v (u % 20)) (v_sa v (u % 20)) (v_sp v (u % 20)) (v_st v (u % 20))).2.2.2.2.1.2.2.2.1, u, (ed_vE v (v_sx v (u % 20)) (v_sa v (u % 20)) (v_sp v (u % 20)) (v_st v (u % 20))).2.2.2.2.1.2.2.2.2.2.1, (ed_vE v (v_sx v (u % 20)) (v_sa v (u % 20)) (v_sp v (u % 20)) (v_st v (u % 20))).2.2.2.2.1.2.2.2.2.2.2), (ed_vE v (v_sx v (u % 20)) (v_sa v (u % 20)) (v_sp v (u % 20)) (v_st v (u % 20))).2.2.2.2.2.1, (ed_vE v (v_sx v (u % 20)) (v_sa v (u % 20)) (v_sp v (u % 20)) (v_st v (u % 20))).2.2.2.2.2.2.1, (ed_vE v (v_sx v (u % 20)) (v_sa v (u % 20)) (v_sp v (u % 20)) (v_st v (u % 20))).2.2.2.2.2.2.2), ⟨_, _, sE_co19 hG (sE_undo1 hG hT (by omega) hum (by omega) x1 x2 x3 (by omega) f1 (by omega) hx), ((((ed_CF.rf hX).dr (fun a h1 h2 => by rw [mm_set_ne _ _ _ h1, mm_cp_ne _ _ _ _ (by omega), mm_set_ne _ _ _ h1])).edit (x := 67) (p := (v_sa v (u % 20))) (d := (v_sp v (u % 20))) (s := (v_st v (u % 20))) (fr := v_sx v (u % 20)) ⟨by decide, Or.inr rfl⟩ (fun i hi => ?_) f1).ud u).q ((v_sa v (u % 20)) + (v_st v (u % 20)))⟩, ⟨_, ((ed_CM.edit (M := mm_cp (mm_set M 69 4 (nI (v_st v (u % 20)))) 77 72 (u % 20 * 100 + (v_sa v (u % 20))) 0 (v_st v (u % 20))) (v := v) hM (p := (v_sa v (u % 20))) (d := (v_sp v (u % 20))) (s := (v_st v (u % 20))) (fr := v_sx v (u % 20)) (fun i hi => ?_) i1 f1 iH1.hb).q ((v_sa v (u % 20)) + (v_st v (u % 20)))).ud u, fun K GM hGM => ?_⟩, ⟨ed_I0.ed hI.1 f1 (by omega) (by omega) (iP1.1.mv i1 f1) ⟨Nat.le_refl 1, (by decide : 1 ≤ 9), j3⟩, iC_19 rfl ⟨by show 1 ≤ u; omega, by show u + 1 ≤ v_m v + 1; omega, fun h9 => ?_⟩⟩, Nat.le_refl _, rfl⟩
    · rw [mm_set_ne _ _ _ (by omega), mm_cp_at, va_cpy_y (by omega) (by omega), mm_set_ne _ _ _ (by omega), Nat.zero_add, Nat.sub_zero]
      exact x4 i hi
    · rw [mm_cp_at, va_cpy_y (by omega) (by omega), Nat.sub_zero]
      exact y4 i hi
    · have c := sR_wk19 (sR_undo1 (E := E) (J := mm_mx K M) hGM hR (by omega) hum (by omega) y1 y2 y3 (by omega) f1 (by omega) hy)
      rw [mx_set (by decide), mx_cp (by decide) (by decide), mx_RS, mx_set (by decide), mx_set (by decide)] at c
      exact c
    · replace h9 : v_m v + 1 < u + 20 := h9
      show v_n v - (v_sp v (u % 20)) + (v_st v (u % 20)) = ed_u (v_sb v) ((v_m v + 1) % 20) (v_n v) (u % 20)
      rw [ed_u_n (by omega)]
      omega
/-- a command on both sides -/
def ed_PP (E : mm_E) (mX : mm_M) (aX : List Value) (mM : mm_M) (aM : List Value) (v : ed_V) (X : mm_J) (G : mm_G) (M : mm_J) (s : Nat) : Prop := ∃ (r : Int32) (v' : ed_V), ed_sX E mX aX X G (some (.int r)) v' ∧ ed_sM E mM aM M (some (.int r)) v' ∧ ed_I v' ∧ v_m v' ≤ v_m v + s ∧ v_E v' = v_E v ∧ (r < 0 → v' = v)
theorem pp_insert {E : mm_E} {v : ed_V} {X : mm_J} {G : mm_G} {M : mm_J} (hX : ed_CX v X G) (hM : ed_CM v M) (hI : ed_I v) (hm : v_m v < 2 ^ 29) {c : Int32} (hc : ed_ch c) : ed_PP E qE_insert [.ref 0, .int c] qR_insert [.ref 69, .int c] v X G M 1 := by
  obtain ⟨hG, ⟨a1, a2, a3⟩, ⟨p1, p2, p3, p4⟩, hK, ⟨s1, s2⟩, ⟨t1, t2, t3, t4, t5⟩, hE, hN, hB⟩ := id hX
  obtain ⟨⟨b1, b2, b3⟩, ⟨o1, o2, o3⟩, hKm, ⟨u1, u2⟩, ⟨w1, w2, w3, w4, w5, w6, w7⟩, hEm, hNm, hBm⟩ := id hM
  obtain ⟨⟨⟨i1, i2⟩, iP1, iK1, iH1, ⟨j1, j2, j3⟩, iE1, iN1, iB1⟩, iC1⟩ := id hI
  replace a1 : X 2 1 = nI (v_n v) := a1
  replace a2 : ∀ i, i < v_n v → X 3 i = v_tx v i := a2
  replace a3 : X 1 3 = nI (v_q v) := a3
  replace p1 : X 4 4 = v_mk v := p1
  replace s1 : X 16 3 = nI (v_m v) := s1
  replace t1 : X 0 7 = nI (v_t v) := t1
  replace t2 : X 0 8 = v_l v := t2
  replace t3 : X 0 9 = nI (v_g v) := t3
  replace t4 : X 0 10 = nI (v_y v) := t4
  replace t5 : X 0 11 = nI (v_ud v) := t5
  replace b1 : M 69 3 = nI (v_n v) := b1
  replace b2 : ∀ i, i < v_n v → M 70 i = v_tx v i := b2
  replace b3 : M 69 5 = nI (v_q v) := b3
  replace o1 : M 69 6 = v_mk v := o1
  replace w1 : M 69 7 = nI (v_t v) := w1
  replace w2 : M 69 8 = v_l v := w2
  replace w3 : M 69 9 = nI (v_g v) := w3
  replace w4 : M 69 17 = nI (v_y v) := w4
  replace w5 : M 69 24 = nI (v_ud v) := w5
  replace w6 : M 69 15 = nI (v_ya v) := w6
  replace w7 : M 69 16 = nI (v_yl v) := w7
  replace u1 : M 69 23 = nI (v_m v) := u1
  replace i1 : v_n v ≤ 100 := i1
  replace i2 : v_q v ≤ v_n v := i2
  replace iP1 : iP (v_n v) (v_P v) := iP1
  replace j1 : 1 ≤ v_t v := j1
  replace j2 : v_t v ≤ 9 := j2
  replace j3 : v_g v ≤ 100 := j3
  have hT := ed_TI_of hX hI hm
  have hR := ed_RB_of hM hI hm
  have hmk : v_m v % 20 < 20 := Nat.mod_lt _ (by decide)
  obtain ⟨-, x2, -, -⟩ := s2 (v_m v % 20) hmk
  obtain ⟨-, y2, -, -⟩ := u2 (v_m v % 20) hmk
  replace x2 : X 18 (v_m v % 20) = nI (v_sp v (v_m v % 20)) := x2
  replace y2 : M 81 (v_m v % 20) = nI (v_sp v (v_m v % 20)) := y2
  have g1 : v_sp v (v_m v % 20) ≤ 100 := (iH1.1 (v_m v % 20) hmk).1
  have hfill : ed_CF v (ed_fill X c (v_t v)) G X := (ed_CF.rf hX).dr (fun a h1 h2 => ed_fill_o X c ⟨h1, h2⟩ _)
  have hfr : ∀ i, i < v_t v → ed_fill X c (v_t v) (67 + 1) i = (fun _ : Nat => c) i := fun i hi => ed_fill_c X c (v_t v) i hi
  by_cases hf : 100 < v_n v + v_t v
  · exact ⟨-3, v, ⟨_, _, sE_insert0 hG hT t1 j2 a3 i2 (fun _ => x2) g1 hf, hfill⟩, ⟨_, hM, fun K GM hGM => sR_insert0 (J := mm_mx K M) hGM hR hc w1 j2 b3 i2 hf⟩, hI, Nat.le_succ _, rfl, fun _ => rfl⟩
  · have hM2 : ed_CM v (ed_fr (mm_set M 69 4 (nI (v_t v))) c (v_t v)) := hM
    have hfm : ∀ i, i < v_t v → ed_fr (mm_set M 69 4 (nI (v_t v))) c (v_t v) 72 i = (fun _ : Nat => c) i := fun i hi => if_pos ⟨rfl, hi⟩
    by_cases hj : v_l v = nI 100 ∧ v_sp v (v_m v % 20) ≤ 7
    · refine ⟨nI 0, (((ed_vJ v (fun _ => c) (v_q v) 0 (v_t v)).1.1, (ed_vJ v (fun _ => c) (v_q v) 0 (v_t v)).1.2.1, v_q v + v_t v), (ed_vJ v (fun _ => c) (v_q v) 0 (v_t v)).2.1, (ed_vJ v (fun _ => c) (v_q v) 0 (v_t v)).2.2.1, (ed_vJ v (fun _ => c) (v_q v) 0 (v_t v)).2.2.2.1, (1, nI 100, (ed_vJ v (fun _ => c) (v_q v) 0 (v_t v)).2.2.2.2.1.2.2.1, (ed_vJ v (fun _ => c) (v_q v) 0 (v_t v)).2.2.2.2.1.2.2.2.1, (ed_vJ v (fun _ => c) (v_q v) 0 (v_t v)).2.2.2.2.1.2.2.2.2.1, (ed_vJ v (fun _ => c) (v_q v) 0 (v_t v)).2.2.2.2.1.2.2.2.2.2.1, (ed_vJ v (fun _ => c) (v_q v) 0 (v_t v)).2.2.2.2.1.2.2.2.2.2.2), (ed_vJ v (fun _ => c) (v_q v) 0 (v_t v)).2.2.2.2.2.1, (ed_vJ v (fun _ => c) (v_q v) 0 (v_t v)).2.2.2.2.2.2.1, (ed_vJ v (fun _ => c) (v_q v) 0 (v_t v)).2.2.2.2.2.2.2), ⟨_, _, sE_insert2 hG hT t1 j2 a3 i2 (fun _ => x2) g1 (by omega) ⟨t2.trans hj.1, hj.2⟩, (((hfill.joined (x := 67) (p := v_q v) (d := 0) (s := v_t v) (fr := fun _ => c) ⟨by decide, Or.inr rfl⟩ hfr (by omega)).q (v_q v + v_t v)).l (nI 100)).t 1⟩, ⟨_, (((hM2.joined (p := v_q v) (d := 0) (s := v_t v) (fr := fun _ => c) hfm (by omega)).q (v_q v + v_t v)).l (nI 100)).t 1, fun K GM hGM => ?_⟩, ⟨⟨⟨by show v_n v - 0 + v_t v ≤ 100; omega, by show v_q v + v_t v ≤ v_n v - 0 + v_t v; omega⟩, iP1.edit i1 (by omega), iK1, iH1.joined (by show v_sp v (v_m v % 20) + v_t v ≤ 100; omega), ⟨Nat.le_refl 1, (by decide : 1 ≤ 9), j3⟩, iE1, iN1, iB1⟩, iC_no (k := 100) rfl (by decide)⟩, Nat.le_succ _, rfl, fun q => absurd q (by decide)⟩
      have c := sR_insert2 (E := E) (J := mm_mx K M) hGM hR hc w1 j2 b3 i2 (fun _ => y2) g1 (by omega) ⟨w2.trans hj.1, hj.2⟩
      rw [mx_set (by decide), mx_fr, mx_set (by decide), mx_Re, mx_set (by decide), mx_set (by decide), mx_set (by decide)] at c
      exact c
    · have hjx : ¬ (X 0 8 = nI 100 ∧ v_sp v (v_m v % 20) ≤ 7) := fun q => hj ⟨t2.symm.trans q.1, q.2⟩
      have hjm : ¬ (M 69 8 = nI 100 ∧ v_sp v (v_m v % 20) ≤ 7) := fun q => hj ⟨w2.symm.trans q.1, q.2⟩
      refine ⟨nI 0, (((ed_vE v (fun _ => c) (v_q v) 0 (v_t v)).1.1, (ed_vE v (fun _ => c) (v_q v) 0 (v_t v)).1.2.1, v_q v + v_t v), (ed_vE v (fun _ => c) (v_q v) 0 (v_t v)).2.1, (ed_vE v (fun _ => c) (v_q v) 0 (v_t v)).2.2.1, (ed_vE v (fun _ => c) (v_q v) 0 (v_t v)).2.2.2.1, (1, nI 100, (ed_vE v (fun _ => c) (v_q v) 0 (v_t v)).2.2.2.2.1.2.2.1, (ed_vE v (fun _ => c) (v_q v) 0 (v_t v)).2.2.2.2.1.2.2.2.1, (ed_vE v (fun _ => c) (v_q v) 0 (v_t v)).2.2.2.2.1.2.2.2.2.1, (ed_vE v (fun _ => c) (v_q v) 0 (v_t v)).2.2.2.2.1.2.2.2.2.2.1, (ed_vE v (fun _ => c) (v_q v) 0 (v_t v)).2.2.2.2.1.2.2.2.2.2.2), (ed_vE v (fun _ => c) (v_q v) 0 (v_t v)).2.2.2.2.2.1, (ed_vE v (fun _ => c) (v_q v) 0 (v_t v)).2.2.2.2.2.2.1, (ed_vE v (fun _ => c) (v_q v) 0 (v_t v)).2.2.2.2.2.2.2), ⟨_, _, sE_insert1 hG hT t1 j2 a3 i2 (fun _ => x2) g1 (by omega) hjx, (((hfill.edit (x := 67) (p := v_q v) (d := 0) (s := v_t v) (fr := fun _ => c) ⟨by decide, Or.inr rfl⟩ hfr (by omega)).q (v_q v + v_t v)).l (nI 100)).t 1⟩, ⟨_, (((hM2.edit (p := v_q v) (d := 0) (s := v_t v) (fr := fun _ => c) hfm i1 (by omega) iH1.hb).q (v_q v + v_t v)).l (nI 100)).t 1, fun K GM hGM => ?_⟩, ⟨ed_I0.ed hI.1 (by omega) (by omega) (by omega) (iP1.1.mv i1 (by omega)) ⟨Nat.le_refl 1, (by decide : 1 ≤ 9), j3⟩, iC_no (k := 100) rfl (by decide)⟩, Nat.le_refl _, rfl, fun q => absurd q (by decide)⟩
      have c := sR_insert1 (E := E) (J := mm_mx K M) hGM hR hc w1 j2 b3 i2 (fun _ => y2) g1 (by omega) hjm
      rw [mx_set (by decide), mx_fr, mx_RS, mx_set (by decide), mx_set (by decide), mx_set (by decide)] at c
      exact c
theorem wp_all {E : mm_E} {v : ed_V} {X : mm_J} {G : mm_G} {M : mm_J} (hX : ed_CX v X G) (hM : ed_CM v M) (hI : ed_I v) (hm : v_m v < 2 ^ 29) {k : Nat} (hk : k < 21) : ed_WP E k v X G M := by
  obtain rfl | rfl | rfl | rfl | rfl | rfl | rfl | rfl | rfl | rfl | rfl | rfl | rfl | rfl | rfl | rfl | rfl | rfl | rfl | rfl | rfl : k = 0 ∨ k = 1 ∨ k = 2 ∨ k = 3 ∨ k = 4 ∨ k = 5 ∨ k = 6 ∨ k = 7 ∨ k = 8 ∨ k = 9 ∨ k = 10 ∨ k = 11 ∨ k = 12 ∨ k = 13 ∨ k = 14 ∨ k = 15 ∨ k = 16 ∨ k = 17 ∨ k = 18 ∨ k = 19 ∨ k = 20 := by omega
  · exact wp_0 hX hM hI
  · exact wp_1 hX hM hI
  · exact wp_2 hX hM hI
  · exact wp_3 hX hM hI
  · exact wp_4 hX hM hI
  · exact wp_5 hX hM hI
  · exact wp_6 hX hM hI
  · exact wp_7 hX hM hI
  · exact wp_8 hX hM hI hm
  · exact wp_9 hX hM hI hm
  · exact wp_10 hX hM hI hm
  · exact wp_11 hX hM hI hm
  · exact wp_12 hX hM hI hm
  · exact wp_13 hX hM hI hm
  · exact wp_14 hX hM hI hm
  · exact wp_15 hX hM hI
  · exact wp_16 hX hM hI
  · exact wp_17 hX hM hI hm
  · exact wp_18 hX hM hI
  · exact wp_19 hX hM hI hm
  · exact wp_20 hX hM hI
theorem pp_perform {E : mm_E} {v : ed_V} {X : mm_J} {G : mm_G} {M : mm_J} (hX : ed_CX v X G) (hM : ed_CM v M) (hI : ed_I v) (hm : v_m v < 2 ^ 29) {k : Nat} (hk : k < 21) : ed_PP E qE_perform [.ref 0, .int (nI k)] qR_perform [.ref 69, .int (nI k)] v X G M 1 := by
  rcases wp_all (E := E) hX hM hI hm hk with ⟨r, hr, ⟨X', G', c1, c2⟩, ⟨M', e1, e2⟩⟩ | ⟨v', ⟨X', G', c1, c2⟩, ⟨M', e1, e2⟩, h3, h4, h5⟩
  · exact ⟨r, v, ⟨_, _, sE_perform0 (by omega) c1 hr, c2⟩, ⟨_, e1, fun K GM hGM => sR_perform0 (e2 K GM hGM) hr⟩, hI, Nat.le_succ _, rfl, fun _ => rfl⟩
  · refine ⟨nI 0, _, ⟨_, _, sE_perform1 (by omega) c1 (by decide), (c2.l (nI k)).t 1⟩, ⟨_, (e1.l (nI k)).t 1, fun K GM hGM => ?_⟩, h3, h4, h5, fun q => absurd q (by decide)⟩
    have c := sR_perform1 (e2 K GM hGM) (by decide)
    rw [mx_set (by decide), mx_set (by decide)] at c
    exact c
