theorem ed_I0.ed {v : ed_V} (hI : ed_I0 v) {fr : Nat → Int32} {p d s q' : Nat} (hpd : p + d ≤ v_n v) (hs : v_n v - d + s ≤ 100) (hq : q' ≤ v_n v - d + s) {mk' : Int32} (hmk : ed_vq (v_n v - d + s) mk') {S' : ed_VS} (hS : iS S') : ed_I0 (((ed_vE v fr p d s).1.1, (ed_vE v fr p d s).1.2.1, q'), (mk', (ed_vE v fr p d s).2.1.2.1, (ed_vE v fr p d s).2.1.2.2), (ed_vE v fr p d s).2.2.1, (ed_vE v fr p d s).2.2.2.1, S', (ed_vE v fr p d s).2.2.2.2.2.1, (ed_vE v fr p d s).2.2.2.2.2.2.1, (ed_vE v fr p d s).2.2.2.2.2.2.2) :=
  ⟨⟨hs, hq⟩, ⟨hmk, (hI.2.1.edit hI.1.1 hpd).2⟩, hI.2.2.1, hI.2.2.2.1.edit hI.1.1 hpd hs _, hS, hI.2.2.2.2.2⟩
theorem iC_10 {v : ed_V} {k : Nat} (e : v_l v = nI k) (hk : k = 10 ∨ k = 11) (h : v_kl v 0 + v_n v ≤ 100) : iC v := by
  refine ⟨fun q => ?_, fun _ => h, fun q => ?_⟩
  · rw [e, nI_eq (by omega) (by decide), nI_eq (by omega) (by decide)] at q
    exact absurd q (by omega)
  · rw [e, nI_eq (by omega) (by decide)] at q
    exact absurd q (by omega)
theorem iC_13 {v : ed_V} {k : Nat} (e : v_l v = nI k) (hk : k = 13 ∨ k = 14) (h : v_y v < v_kc v ∧ v_mk v = nI (v_ya v) ∧ v_q v = v_ya v + v_yl v) : iC v := by
  refine ⟨fun _ => h, fun q => ?_, fun q => ?_⟩
  · rw [e, nI_eq (by omega) (by decide), nI_eq (by omega) (by decide)] at q
    exact absurd q (by omega)
  · rw [e, nI_eq (by omega) (by decide)] at q
    exact absurd q (by omega)
theorem iC_19 {v : ed_V} (e : v_l v = nI 19) (h : 1 ≤ v_ud v ∧ v_ud v + 1 ≤ v_m v ∧ (v_m v < v_ud v + 20 → v_n v = v_sb v (v_ud v % 20))) : iC v := by
  refine ⟨fun q => ?_, fun q => ?_, fun _ => h⟩
  · rw [e] at q
    exact absurd q (by decide)
  · rw [e] at q
    exact absurd q (by decide)
theorem ed_RB2 {v : ed_V} {M : mm_J} (h : ed_CM v M) (hn : v_n v ≤ 100) (hP : iP (v_n v) (v_P v)) (hm : v_m v < 2 ^ 29) : ed_RB M (v_n v) (v_m v) := by
  obtain ⟨⟨a1, a2, a3⟩, ⟨p1, p2, p3⟩, hK, ⟨s1, s2⟩, hS, hE, hN, hB⟩ := h
  refine ⟨a1, hn, by rw [p1]; exact hP.1.vp hn, fun i hi => by rw [p2 i hi]; exact (hP.2 i hi).1.vp hn, fun i hi => by rw [p3 i hi]; exact (hP.2 i hi).2, s1, by omega⟩
theorem iH.hb {n : Nat} {a : ed_VH} (h : iH n a) : ∀ j, j < 20 → a.2.1 j + a.2.2.2.1 j ≤ 100 := fun j hj => by
  have := h.1 j hj
  omega
/-- a piece is taken out -/
def ed_vD (v : ed_V) (a d : Nat) : ed_V := (((ed_vE v (fun _ => 0) a d 0).1.1, (ed_vE v (fun _ => 0) a d 0).1.2.1, a), (ed_vE v (fun _ => 0) a d 0).2.1, (ed_vE v (fun _ => 0) a d 0).2.2.1, (ed_vE v (fun _ => 0) a d 0).2.2.2.1, (ed_vE v (fun _ => 0) a d 0).2.2.2.2.1, (ed_vE v (fun _ => 0) a d 0).2.2.2.2.2.1, (ed_vE v (fun _ => 0) a d 0).2.2.2.2.2.2.1, (ed_vE v (fun _ => 0) a d 0).2.2.2.2.2.2.2)
theorem ed_er_M {E : mm_E} {v : ed_V} {M : mm_J} (hM : ed_CM v M) (hn : v_n v ≤ 100) (hP : iP (v_n v) (v_P v)) (hH : iH (v_n v) (v_H v)) (hm : v_m v < 2 ^ 29) {a d : Nat} (hd : 0 < d) (had : a + d ≤ v_n v) : ed_sM E qR_erase [.ref 69, .int (nI a), .int (nI d)] M (some (.int (nI 0))) (ed_vD v a d) := by
  refine ⟨_, ((hM.fl (nI 0)).edit (p := a) (d := d) (s := 0) (fr := fun _ => 0) (fun i hi => absurd hi (by omega)) hn had hH.hb).q a, fun K GM hGM => ?_⟩
  have c := sR_erase1 (E := E) (J := mm_mx K M) hGM (ed_RB2 hM hn hP hm) hd had
  rw [mx_set (by decide), mx_RS, mx_set (by decide)] at c
  exact c
theorem ed_er_X {v : ed_V} {X X0 : mm_J} {G : mm_G} (h : ed_CF v X G X0) {a d : Nat} (had : a + d ≤ v_n v) : ed_CF (ed_vD v a d) (mm_set (ed_ed (mm_set X 67 1 (nI 0)) 67 (v_n v) (v_m v) a d 0) 1 3 (nI a)) G X0 :=
  ((h.d67 (nI 0)).edit (x := 67) (p := a) (d := d) (s := 0) (fr := fun _ => 0) ⟨by decide, Or.inr rfl⟩ (fun i hi => absurd hi (by omega)) had).q a
theorem ed_kn_M {E : mm_E} {v : ed_V} {M : mm_J} (hM : ed_CM v M) (hn : v_n v ≤ 100) (hK : iK (v_K v)) {a d : Nat} (had : a + d ≤ v_n v) : ed_sM E qR_keep [.ref 69, .int (nI a), .int (nI d), .int (nI 0)] M none (ed_vN v a d) := by
  refine ⟨_, hM.kn had hn hK.2, fun K GM hGM => ?_⟩
  have c := sR_keep0 (E := E) (J := mm_mx K M) hGM (a := a) (d := d) hM.2.2.1.1 hK.1 (by omega)
  rw [mx_set (by decide), mx_shift, mx_cp (by decide) (by decide), mx_set (by decide)] at c
  exact c
theorem ed_kb_M {E : mm_E} {v : ed_V} {M : mm_J} (hM : ed_CM v M) (hn : v_n v ≤ 100) {a d : Nat} (had : a + d ≤ v_n v) (hl : v_kl v 0 + d ≤ 100) : ed_sM E qR_keep [.ref 69, .int (nI a), .int (nI d), .int (nI 1)] M none (ed_vB v a d) := by
  refine ⟨_, hM.kb had hl, fun K GM hGM => ?_⟩
  have c := sR_keep1 (E := E) (J := mm_mx K M) hGM (a := a) (d := d) (hM.2.2.1.2 0 (by decide)).1 hl (by omega)
  rw [mx_cp (by decide) (by decide), mx_set (by decide)] at c
  exact c
theorem xK.row {a : ed_VK} {X : mm_J} {G : mm_G} (h : xK a X G) {i : Nat} (hi : i < 4) : ∃ r, ed_kr X G i r (a.2.1 i) (a.2.2 i) := by
  obtain ⟨-, x, -, h3⟩ := h
  exact ⟨x i, h3 i hi⟩
theorem ed_CF.dr {v : ed_V} {X X' X0 : mm_J} {G : mm_G} (h : ed_CF v X G X0) (e : ∀ a, ¬ a = 67 → ¬ a = 68 → X' a = X a) : ed_CF v X' G X0 :=
  ⟨⟨h.1.1, h.1.2.1.fr (e 2 (by decide) (by decide)) (e 3 (by decide) (by decide)) (e 1 (by decide) (by decide)), h.1.2.2.1.fr (e 4 (by decide) (by decide)) (e 5 (by decide) (by decide)), h.1.2.2.2.1.fr (fun i _ _ => e i (by omega) (by omega)), h.1.2.2.2.2.1.fr (fun i _ _ => e i (by omega) (by omega)), h.1.2.2.2.2.2.1.fr (e 0 (by decide) (by decide)), h.1.2.2.2.2.2.2.1.fr (e 63 (by decide) (by decide)) (e 64 (by decide) (by decide)) (e 65 (by decide) (by decide)), h.1.2.2.2.2.2.2.2.1.fr (e 66 (by decide) (by decide)), h.1.2.2.2.2.2.2.2.2.fr (e 60 (by decide) (by decide)) (e 61 (by decide) (by decide)) (e 62 (by decide) (by decide))⟩, fun i hi => (e i (by omega) (by omega)).trans (h.2 i hi)⟩
theorem wp_8 {E : mm_E} {v : ed_V} {X : mm_J} {G : mm_G} {M : mm_J} (hX : ed_CX v X G) (hM : ed_CM v M) (hI : ed_I v) (hm : v_m v < 2 ^ 29) : ed_WP E 8 v X G M := by
  obtain ⟨hG, ⟨a1, a2, a3⟩, ⟨p1, p2, p3, p4⟩, hK, ⟨s1, s2⟩, ⟨t1, t2, t3, t4, t5⟩, hE, hN, hB⟩ := id hX
  obtain ⟨⟨b1, b2, b3⟩, ⟨o1, o2, o3⟩, hKm, ⟨u1, u2⟩, ⟨w1, w2, w3, w4, w5, w6, w7⟩, hEm, hNm, hBm⟩ := id hM
  obtain ⟨⟨⟨i1, i2⟩, iP1, iK1, iH1, ⟨j1, j2, j3⟩, iE1, iN1, iB1⟩, iC1⟩ := id hI
  replace a1 : X 2 1 = nI (v_n v) := a1
  replace a2 : ∀ i, i < v_n v → X 3 i = v_tx v i := a2
  replace a3 : X 1 3 = nI (v_q v) := a3
  replace p1 : X 4 4 = v_mk v := p1
  replace s1 : X 16 3 = nI (v_m v) := s1
  replace t1 : X 0 7 = nI (v_t v) := t1
  replace t2 : X 0 8 = v_l v := t2
  replace t3 : X 0 9 = nI (v_g v) := t3
  replace t4 : X 0 10 = nI (v_y v) := t4
  replace t5 : X 0 11 = nI (v_ud v) := t5
  replace b1 : M 69 3 = nI (v_n v) := b1
  replace b2 : ∀ i, i < v_n v → M 70 i = v_tx v i := b2
  replace b3 : M 69 5 = nI (v_q v) := b3
  replace o1 : M 69 6 = v_mk v := o1
  replace w1 : M 69 7 = nI (v_t v) := w1
  replace w2 : M 69 8 = v_l v := w2
  replace w3 : M 69 9 = nI (v_g v) := w3
  replace w4 : M 69 17 = nI (v_y v) := w4
  replace w5 : M 69 24 = nI (v_ud v) := w5
  replace w6 : M 69 15 = nI (v_ya v) := w6
  replace w7 : M 69 16 = nI (v_yl v) := w7
  replace u1 : M 69 23 = nI (v_m v) := u1
  replace i1 : v_n v ≤ 100 := i1
  replace i2 : v_q v ≤ v_n v := i2
  replace iP1 : iP (v_n v) (v_P v) := iP1
  replace j1 : 1 ≤ v_t v := j1
  replace j2 : v_t v ≤ 9 := j2
  replace j3 : v_g v ≤ 100 := j3
  have hT := ed_TI_of hX hI hm
  have hR := ed_RB_of hM hI hm
  by_cases h0 : min (v_q v + v_t v) (v_n v) ≤ v_q v
  · refine Or.inl ⟨-2, by decide, ⟨_, _, sE_co8 hG a1 i1 a3 i2 t1 j2 (sE_takeOut0 (by omega) h0), ed_CF.rf hX⟩, ⟨_, hM, fun K GM hGM => ?_⟩⟩
    refine sR_wk8 (J := mm_mx K M) hGM b1 i1 b3 i2 w1 j2 ?_
    rw [show min (v_t v) (v_n v - v_q v) = 0 by omega]
    exact sR_erase0
  · have hd : v_q v + (min (v_q v + v_t v) (v_n v) - (v_q v)) = min (v_q v + v_t v) (v_n v) := by omega
    have hb : min (v_q v + v_t v) (v_n v) ≤ v_n v := by omega
    obtain ⟨M', c1, c2⟩ := ed_er_M (E := E) hM i1 iP1 iH1 hm (a := v_q v) (d := (min (v_q v + v_t v) (v_n v) - (v_q v))) (by omega) (by omega)
    refine Or.inr ⟨ed_vD v (v_q v) (min (v_q v + v_t v) (v_n v) - (v_q v)), ⟨_, _, sE_co8 hG a1 i1 a3 i2 t1 j2 (sE_takeOut1 hG hT (by omega) hb), ed_er_X (ed_CF.rf hX) (by omega)⟩, ⟨M', c1, fun K GM hGM => ?_⟩, ⟨ed_I0.ed hI.1 (by omega) (by omega) (by omega) (iP1.1.mv i1 (by omega)) ⟨Nat.le_refl 1, (by decide : 1 ≤ 9), j3⟩, iC_no (k := 8) rfl (by decide)⟩, Nat.le_refl _, rfl⟩
    refine sR_wk8 (J := mm_mx K M) hGM b1 i1 b3 i2 w1 j2 ?_
    rw [show min (v_t v) (v_n v - v_q v) = (min (v_q v + v_t v) (v_n v) - (v_q v)) by omega]
    exact c2 K GM hGM
theorem wp_9 {E : mm_E} {v : ed_V} {X : mm_J} {G : mm_G} {M : mm_J} (hX : ed_CX v X G) (hM : ed_CM v M) (hI : ed_I v) (hm : v_m v < 2 ^ 29) : ed_WP E 9 v X G M := by
  obtain ⟨hG, ⟨a1, a2, a3⟩, ⟨p1, p2, p3, p4⟩, hK, ⟨s1, s2⟩, ⟨t1, t2, t3, t4, t5⟩, hE, hN, hB⟩ := id hX
  obtain ⟨⟨b1, b2, b3⟩, ⟨o1, o2, o3⟩, hKm, ⟨u1, u2⟩, ⟨w1, w2, w3, w4, w5, w6, w7⟩, hEm, hNm, hBm⟩ := id hM
  obtain ⟨⟨⟨i1, i2⟩, iP1, iK1, iH1, ⟨j1, j2, j3⟩, iE1, iN1, iB1⟩, iC1⟩ := id hI
  replace a1 : X 2 1 = nI (v_n v) := a1
  replace a2 : ∀ i, i < v_n v → X 3 i = v_tx v i := a2
  replace a3 : X 1 3 = nI (v_q v) := a3
  replace p1 : X 4 4 = v_mk v := p1
  replace s1 : X 16 3 = nI (v_m v) := s1
  replace t1 : X 0 7 = nI (v_t v) := t1
  replace t2 : X 0 8 = v_l v := t2
  replace t3 : X 0 9 = nI (v_g v) := t3
  replace t4 : X 0 10 = nI (v_y v) := t4
  replace t5 : X 0 11 = nI (v_ud v) := t5
  replace b1 : M 69 3 = nI (v_n v) := b1
  replace b2 : ∀ i, i < v_n v → M 70 i = v_tx v i := b2
  replace b3 : M 69 5 = nI (v_q v) := b3
  replace o1 : M 69 6 = v_mk v := o1
  replace w1 : M 69 7 = nI (v_t v) := w1
  replace w2 : M 69 8 = v_l v := w2
  replace w3 : M 69 9 = nI (v_g v) := w3
  replace w4 : M 69 17 = nI (v_y v) := w4
  replace w5 : M 69 24 = nI (v_ud v) := w5
  replace w6 : M 69 15 = nI (v_ya v) := w6
  replace w7 : M 69 16 = nI (v_yl v) := w7
  replace u1 : M 69 23 = nI (v_m v) := u1
  replace i1 : v_n v ≤ 100 := i1
  replace i2 : v_q v ≤ v_n v := i2
  replace iP1 : iP (v_n v) (v_P v) := iP1
  replace j1 : 1 ≤ v_t v := j1
  replace j2 : v_t v ≤ 9 := j2
  replace j3 : v_g v ≤ 100 := j3
  have hT := ed_TI_of hX hI hm
  have hR := ed_RB_of hM hI hm
  by_cases h0 : v_q v ≤ v_q v - v_t v
  · refine Or.inl ⟨-2, by decide, ⟨_, _, sE_co9 hG a1 i1 a3 i2 t1 j2 (sE_takeOut0 (by omega) h0), ed_CF.rf hX⟩, ⟨_, hM, fun K GM hGM => ?_⟩⟩
    refine sR_wk9 (J := mm_mx K M) hGM b1 i1 b3 i2 w1 j2 ?_
    rw [show min (v_q v) (v_t v) = 0 by omega]
    exact sR_erase0
  · have hd : v_q v - v_t v + (v_q v - (v_q v - v_t v)) = v_q v := by omega
    have hb : v_q v ≤ v_n v := by omega
    obtain ⟨M', c1, c2⟩ := ed_er_M (E := E) hM i1 iP1 iH1 hm (a := v_q v - v_t v) (d := (v_q v - (v_q v - v_t v))) (by omega) (by omega)
    refine Or.inr ⟨ed_vD v (v_q v - v_t v) (v_q v - (v_q v - v_t v)), ⟨_, _, sE_co9 hG a1 i1 a3 i2 t1 j2 (sE_takeOut1 hG hT (by omega) hb), ed_er_X (ed_CF.rf hX) (by omega)⟩, ⟨M', c1, fun K GM hGM => ?_⟩, ⟨ed_I0.ed hI.1 (by omega) (by omega) (by omega) (iP1.1.mv i1 (by omega)) ⟨Nat.le_refl 1, (by decide : 1 ≤ 9), j3⟩, iC_no (k := 9) rfl (by decide)⟩, Nat.le_refl _, rfl⟩
    refine sR_wk9 (J := mm_mx K M) hGM b1 i1 b3 i2 w1 j2 ?_
    rw [show min (v_q v) (v_t v) = (v_q v - (v_q v - v_t v)) by omega]
    exact c2 K GM hGM
theorem wp_10 {E : mm_E} {v : ed_V} {X : mm_J} {G : mm_G} {M : mm_J} (hX : ed_CX v X G) (hM : ed_CM v M) (hI : ed_I v) (hm : v_m v < 2 ^ 29) : ed_WP E 10 v X G M := by
  obtain ⟨hG, ⟨a1, a2, a3⟩, ⟨p1, p2, p3, p4⟩, hK, ⟨s1, s2⟩, ⟨t1, t2, t3, t4, t5⟩, hE, hN, hB⟩ := id hX
  obtain ⟨⟨b1, b2, b3⟩, ⟨o1, o2, o3⟩, hKm, ⟨u1, u2⟩, ⟨w1, w2, w3, w4, w5, w6, w7⟩, hEm, hNm, hBm⟩ := id hM
  obtain ⟨⟨⟨i1, i2⟩, iP1, iK1, iH1, ⟨j1, j2, j3⟩, iE1, iN1, iB1⟩, iC1⟩ := id hI
  replace a1 : X 2 1 = nI (v_n v) := a1
  replace a2 : ∀ i, i < v_n v → X 3 i = v_tx v i := a2
  replace a3 : X 1 3 = nI (v_q v) := a3
  replace p1 : X 4 4 = v_mk v := p1
  replace s1 : X 16 3 = nI (v_m v) := s1
  replace t1 : X 0 7 = nI (v_t v) := t1
  replace t2 : X 0 8 = v_l v := t2
  replace t3 : X 0 9 = nI (v_g v) := t3
  replace t4 : X 0 10 = nI (v_y v) := t4
  replace t5 : X 0 11 = nI (v_ud v) := t5
  replace b1 : M 69 3 = nI (v_n v) := b1
  replace b2 : ∀ i, i < v_n v → M 70 i = v_tx v i := b2
  replace b3 : M 69 5 = nI (v_q v) := b3
  replace o1 : M 69 6 = v_mk v := o1
  replace w1 : M 69 7 = nI (v_t v) := w1
  replace w2 : M 69 8 = v_l v := w2
  replace w3 : M 69 9 = nI (v_g v) := w3
  replace w4 : M 69 17 = nI (v_y v) := w4
  replace w5 : M 69 24 = nI (v_ud v) := w5
  replace w6 : M 69 15 = nI (v_ya v) := w6
  replace w7 : M 69 16 = nI (v_yl v) := w7
  replace u1 : M 69 23 = nI (v_m v) := u1
  replace i1 : v_n v ≤ 100 := i1
  replace i2 : v_q v ≤ v_n v := i2
  replace iP1 : iP (v_n v) (v_P v) := iP1
  replace j1 : 1 ≤ v_t v := j1
  replace j2 : v_t v ≤ 9 := j2
  replace j3 : v_g v ≤ 100 := j3
  obtain ⟨c1, r0, r1, r2, r3, k0, k1, k2, k3, hd⟩ := xK.rows hK
  obtain ⟨d1, d2⟩ := id hKm
  replace c1 : X 6 1 = nI (v_kc v) := c1
  replace d1 : M 69 14 = nI (v_kc v) := d1
  replace d2 : ∀ i, i < 4 → M 76 i = nI (v_kl v i) ∧ ∀ j, j < v_kl v i → M 75 (i * 100 + j) = v_kt v i j := d2
  replace k0 : ed_kr X G 0 r0 (v_kl v 0) (v_kt v 0) := k0
  replace k1 : ed_kr X G 1 r1 (v_kl v 1) (v_kt v 1) := k1
  replace k2 : ed_kr X G 2 r2 (v_kl v 2) (v_kt v 2) := k2
  replace k3 : ed_kr X G 3 r3 (v_kl v 3) (v_kt v 3) := k3
  have q1 : v_kc v ≤ 4 := iK1.1
  have q2 : ∀ i, i < 4 → v_kl v i ≤ 100 := iK1.2
  have hT := ed_TI_of hX hI hm
  have hR := ed_RB_of hM hI hm
  have hlk := ed_lke_kd (f := v_tx v) i2
  have ex : ed_lke (X 3) (v_n v) (v_q v) = v_q v + ed_kd (v_tx v) (v_n v) (v_q v) := by rw [ed_eq.lke a2 i2]; exact hlk.1
  have em : ∀ K, ed_kd (mm_mx K M 70) (v_n v) (v_q v) = ed_kd (v_tx v) (v_n v) (v_q v) := fun K => ed_eq.kd b2 i2
  generalize hD : ed_kd (v_tx v) (v_n v) (v_q v) = D at *
  have hqd : v_q v + D ≤ v_n v := by omega
  have eD : v_q v + D - v_q v = D := by omega
  by_cases h0 : D = 0
  · refine Or.inl ⟨-2, by decide, ?_, ⟨_, hM, fun K GM hGM => sR_wk10 (sR_killLine0 (J := mm_mx K M) hGM b1 i1 b3 i2 ((em K).trans h0))⟩⟩
    by_cases hl : v_l v = nI 10 ∨ v_l v = nI 11
    · exact ⟨_, _, sE_co10a hG a1 i1 a3 i2 t1 j2 (by rw [t2]; exact hl) (sE_kill0 (by omega) (by rw [ex]; omega)), ed_CF.rf hX⟩
    · exact ⟨_, _, sE_co10b hG a1 i1 a3 i2 t1 j2 (by rw [t2]; exact ⟨fun q => hl (Or.inl q), fun q => hl (Or.inr q)⟩) (sE_kill0 (by omega) (by rw [ex]; omega)), ed_CF.rf hX⟩
  · by_cases hl : v_l v = nI 10 ∨ v_l v = nI 11
    · have hk := iC1.2.1 hl
      obtain ⟨M1, e1, e2⟩ := ed_kb_M (E := E) hM i1 (a := v_q v) (d := D) hqd (by omega)
      obtain ⟨M2, e3, e4⟩ := ed_er_M (E := E) e1 i1 iP1 iH1 hm (a := v_q v) (d := D) (by omega) hqd
      have cX := sE_kill1 (E := E) hG hT k0.1 k0.2.1.sh.1 k0.2.1.sh.2 (a := v_q v) (b := v_q v + D) k0.2.2.1 (by omega) hqd (by omega)
      rw [eD] at cX
      refine Or.inr ⟨ed_vD (ed_vB v (v_q v) D) (v_q v) D, ⟨_, _, sE_co10a hG a1 i1 a3 i2 t1 j2 (by rw [t2]; exact hl) (by rw [ex]; exact cX), ed_er_X ((ed_CF.rf hX).kb k0 k1 k2 k3 hd hqd) hqd⟩, ⟨M2, e3, fun K GM hGM => ?_⟩, ⟨ed_I0.ed (v := ed_vB v (v_q v) D) ⟨⟨i1, i2⟩, iP1, ⟨q1, fun i hi => ?_⟩, iH1, ⟨j1, j2, j3⟩, iE1, iN1, iB1⟩ hqd ?_ ?_ (iP1.1.mv i1 hqd) ⟨Nat.le_refl 1, (by decide : 1 ≤ 9), j3⟩, iC_10 (k := 10) rfl (Or.inl rfl) ?_⟩, Nat.le_refl _, rfl⟩
      · exact sR_wk10 (sR_killLine1 (J := mm_mx K M) (J2 := mm_mx K M1) hGM b1 i1 b3 i2 (by rw [em]; omega) (by rw [← w2] at hl; exact hl) (by rw [em]; exact e2 K GM hGM) e1.1.2.2 (by rw [em]; exact e4 K GM hGM))
      · show ed_u (v_kl v) 0 (v_kl v 0 + D) i ≤ 100
        by_cases h9 : i = 0
        · rw [h9, ed_u_y]; omega
        · rw [ed_u_n h9]; exact q2 i hi
      · show v_n v - D + 0 ≤ 100
        omega
      · show v_q v ≤ v_n v - D + 0
        omega
      · show v_kl v 0 + D + (v_n v - D + 0) ≤ 100
        omega
    · have hl1 : ¬ v_l v = nI 10 := fun q => hl (Or.inl q)
      have hl2 : ¬ v_l v = nI 11 := fun q => hl (Or.inr q)
      obtain ⟨M1, e1, e2⟩ := ed_kn_M (E := E) hM i1 iK1 (a := v_q v) (d := D) hqd
      obtain ⟨M2, e3, e4⟩ := ed_er_M (E := E) e1 i1 iP1 iH1 hm (a := v_q v) (d := D) (by omega) hqd
      have cX := sE_kill2 hG hT k0.1 k1.1 k2.1 k3.1 k0.2.1.sh.1 k1.2.1.sh.1 k2.2.1.sh.1 k3.2.1.sh.1 k3.2.1.sh.2 c1 q1 (E := E) (a := v_q v) (b := v_q v + D) (by omega) hqd
      rw [eD] at cX
      refine Or.inr ⟨ed_vD (ed_vN v (v_q v) D) (v_q v) D, ⟨_, _, sE_co10b hG a1 i1 a3 i2 t1 j2 (by rw [t2]; exact ⟨hl1, hl2⟩) (by rw [ex]; exact cX), ed_er_X ((ed_CF.rf hX).kn k0 k1 k2 k3 hd hqd) hqd⟩, ⟨M2, e3, fun K GM hGM => ?_⟩, ⟨ed_I0.ed (v := ed_vN v (v_q v) D) ⟨⟨i1, i2⟩, iP1, ⟨Nat.min_le_right _ _, fun i hi => ?_⟩, iH1, ⟨j1, j2, j3⟩, iE1, iN1, iB1⟩ hqd ?_ ?_ (iP1.1.mv i1 hqd) ⟨Nat.le_refl 1, (by decide : 1 ≤ 9), j3⟩, iC_10 (k := 10) rfl (Or.inl rfl) ?_⟩, Nat.le_refl _, rfl⟩
      · exact sR_wk10 (sR_killLine2 (J := mm_mx K M) (J2 := mm_mx K M1) hGM b1 i1 b3 i2 (by rw [em]; omega) (by rw [← w2] at hl1 hl2; exact ⟨hl1, hl2⟩) (by rw [em]; exact e2 K GM hGM) e1.1.2.2 (by rw [em]; exact e4 K GM hGM))
      · show (if i = 0 then D else v_kl v (i - 1)) ≤ 100
        split
        · omega
        · exact q2 (i - 1) (by omega)
      · show v_n v - D + 0 ≤ 100
        omega
      · show v_q v ≤ v_n v - D + 0
        omega
      · show D + (v_n v - D + 0) ≤ 100
        omega
theorem wp_11 {E : mm_E} {v : ed_V} {X : mm_J} {G : mm_G} {M : mm_J} (hX : ed_CX v X G) (hM : ed_CM v M) (hI : ed_I v) (hm : v_m v < 2 ^ 29) : ed_WP E 11 v X G M := by
  obtain ⟨hG, ⟨a1, a2, a3⟩, ⟨p1, p2, p3, p4⟩, hK, ⟨s1, s2⟩, ⟨t1, t2, t3, t4, t5⟩, hE, hN, hB⟩ := id hX
  obtain ⟨⟨b1, b2, b3⟩, ⟨o1, o2, o3⟩, hKm, ⟨u1, u2⟩, ⟨w1, w2, w3, w4, w5, w6, w7⟩, hEm, hNm, hBm⟩ := id hM
  obtain ⟨⟨⟨i1, i2⟩, iP1, iK1, iH1, ⟨j1, j2, j3⟩, iE1, iN1, iB1⟩, iC1⟩ := id hI
  replace a1 : X 2 1 = nI (v_n v) := a1
  replace a2 : ∀ i, i < v_n v → X 3 i = v_tx v i := a2
  replace a3 : X 1 3 = nI (v_q v) := a3
  replace p1 : X 4 4 = v_mk v := p1
  replace s1 : X 16 3 = nI (v_m v) := s1
  replace t1 : X 0 7 = nI (v_t v) := t1
  replace t2 : X 0 8 = v_l v := t2
  replace t3 : X 0 9 = nI (v_g v) := t3
  replace t4 : X 0 10 = nI (v_y v) := t4
  replace t5 : X 0 11 = nI (v_ud v) := t5
  replace b1 : M 69 3 = nI (v_n v) := b1
  replace b2 : ∀ i, i < v_n v → M 70 i = v_tx v i := b2
  replace b3 : M 69 5 = nI (v_q v) := b3
  replace o1 : M 69 6 = v_mk v := o1
  replace w1 : M 69 7 = nI (v_t v) := w1
  replace w2 : M 69 8 = v_l v := w2
  replace w3 : M 69 9 = nI (v_g v) := w3
  replace w4 : M 69 17 = nI (v_y v) := w4
  replace w5 : M 69 24 = nI (v_ud v) := w5
  replace w6 : M 69 15 = nI (v_ya v) := w6
  replace w7 : M 69 16 = nI (v_yl v) := w7
  replace u1 : M 69 23 = nI (v_m v) := u1
  replace i1 : v_n v ≤ 100 := i1
  replace i2 : v_q v ≤ v_n v := i2
  replace iP1 : iP (v_n v) (v_P v) := iP1
  replace j1 : 1 ≤ v_t v := j1
  replace j2 : v_t v ≤ 9 := j2
  replace j3 : v_g v ≤ 100 := j3
  obtain ⟨c1, r0, r1, r2, r3, k0, k1, k2, k3, hd⟩ := xK.rows hK
  obtain ⟨d1, d2⟩ := id hKm
  replace c1 : X 6 1 = nI (v_kc v) := c1
  replace d1 : M 69 14 = nI (v_kc v) := d1
  replace d2 : ∀ i, i < 4 → M 76 i = nI (v_kl v i) ∧ ∀ j, j < v_kl v i → M 75 (i * 100 + j) = v_kt v i j := d2
  replace k0 : ed_kr X G 0 r0 (v_kl v 0) (v_kt v 0) := k0
  replace k1 : ed_kr X G 1 r1 (v_kl v 1) (v_kt v 1) := k1
  replace k2 : ed_kr X G 2 r2 (v_kl v 2) (v_kt v 2) := k2
  replace k3 : ed_kr X G 3 r3 (v_kl v 3) (v_kt v 3) := k3
  have q1 : v_kc v ≤ 4 := iK1.1
  have q2 : ∀ i, i < 4 → v_kl v i ≤ 100 := iK1.2
  have hT := ed_TI_of hX hI hm
  have hR := ed_RB_of hM hI hm
  rcases id iP1.1 with hk | ⟨k, hk1, hk2⟩
  · exact Or.inl ⟨-2, by decide, ⟨_, _, sE_co11b hG a3 (by omega) (p1.trans hk) (sE_kill0 (by omega) (Nat.le_refl _)), ed_CF.rf hX⟩, ⟨_, hM, fun K GM hGM => sR_wk11 (sR_killRegion0 (J := mm_mx K M) (o1.trans hk))⟩⟩
  · by_cases hkq : k = v_q v
    · exact Or.inl ⟨-2, by decide, ⟨_, _, sE_co11a hG a3 (by omega) (p1.trans hk2) (by omega) (sE_kill0 (by omega) (by omega)), ed_CF.rf hX⟩, ⟨_, hM, fun K GM hGM => sR_wk11 (sR_killRegion1 (J := mm_mx K M) hGM b3 (by omega) (o1.trans hk2) (by omega) hkq)⟩⟩
    · have hqd : min k (v_q v) + (max k (v_q v) - min k (v_q v)) ≤ v_n v := by omega
      obtain ⟨M1, e1, e2⟩ := ed_kn_M (E := E) hM i1 iK1 (a := min k (v_q v)) (d := max k (v_q v) - min k (v_q v)) hqd
      obtain ⟨M2, e3, e4⟩ := ed_er_M (E := E) e1 i1 iP1 iH1 hm (a := (min k (v_q v))) (d := (max k (v_q v) - min k (v_q v))) (by omega) hqd
      have cX := sE_kill2 hG hT k0.1 k1.1 k2.1 k3.1 k0.2.1.sh.1 k1.2.1.sh.1 k2.2.1.sh.1 k3.2.1.sh.1 k3.2.1.sh.2 c1 q1 (E := E) (a := (min k (v_q v))) (b := (max k (v_q v))) (by omega) (by omega)
      refine Or.inr ⟨ed_vD (ed_vN v (min k (v_q v)) (max k (v_q v) - min k (v_q v))) (min k (v_q v)) (max k (v_q v) - min k (v_q v)), ⟨_, _, sE_co11a hG a3 (by omega) (p1.trans hk2) (by omega) cX, ed_er_X ((ed_CF.rf hX).kn k0 k1 k2 k3 hd hqd) hqd⟩, ⟨M2, e3, fun K GM hGM => sR_wk11 (sR_killRegion3 (J := mm_mx K M) (J2 := mm_mx K M1) hGM b3 (by omega) (o1.trans hk2) (by omega) hkq (e2 K GM hGM) (e4 K GM hGM))⟩, ⟨ed_I0.ed (v := ed_vN v (min k (v_q v)) (max k (v_q v) - min k (v_q v))) ⟨⟨i1, i2⟩, iP1, ⟨Nat.min_le_right _ _, fun i hi => ?_⟩, iH1, ⟨j1, j2, j3⟩, iE1, iN1, iB1⟩ hqd ?_ ?_ (iP1.1.mv i1 hqd) ⟨Nat.le_refl 1, (by decide : 1 ≤ 9), j3⟩, iC_10 (k := 11) rfl (Or.inr rfl) ?_⟩, Nat.le_refl _, rfl⟩
      · show (if i = 0 then max k (v_q v) - min k (v_q v) else v_kl v (i - 1)) ≤ 100
        split
        · omega
        · exact q2 (i - 1) (by omega)
      · show v_n v - (max k (v_q v) - min k (v_q v)) + 0 ≤ 100
        omega
      · show (min k (v_q v)) ≤ v_n v - (max k (v_q v) - min k (v_q v)) + 0
        omega
      · show (max k (v_q v) - min k (v_q v)) + (v_n v - (max k (v_q v) - min k (v_q v)) + 0) ≤ 100
        omega
theorem wp_12 {E : mm_E} {v : ed_V} {X : mm_J} {G : mm_G} {M : mm_J} (hX : ed_CX v X G) (hM : ed_CM v M) (hI : ed_I v) (hm : v_m v < 2 ^ 29) : ed_WP E 12 v X G M := by
  obtain ⟨hG, ⟨a1, a2, a3⟩, ⟨p1, p2, p3, p4⟩, hK, ⟨s1, s2⟩, ⟨t1, t2, t3, t4, t5⟩, hE, hN, hB⟩ := id hX
  obtain ⟨⟨b1, b2, b3⟩, ⟨o1, o2, o3⟩, hKm, ⟨u1, u2⟩, ⟨w1, w2, w3, w4, w5, w6, w7⟩, hEm, hNm, hBm⟩ := id hM
  obtain ⟨⟨⟨i1, i2⟩, iP1, iK1, iH1, ⟨j1, j2, j3⟩, iE1, iN1, iB1⟩, iC1⟩ := id hI
  replace a1 : X 2 1 = nI (v_n v) := a1
  replace a2 : ∀ i, i < v_n v → X 3 i = v_tx v i := a2
  replace a3 : X 1 3 = nI (v_q v) := a3
  replace p1 : X 4 4 = v_mk v := p1
  replace s1 : X 16 3 = nI (v_m v) := s1
  replace t1 : X 0 7 = nI (v_t v) := t1
  replace t2 : X 0 8 = v_l v := t2
  replace t3 : X 0 9 = nI (v_g v) := t3
  replace t4 : X 0 10 = nI (v_y v) := t4
  replace t5 : X 0 11 = nI (v_ud v) := t5
  replace b1 : M 69 3 = nI (v_n v) := b1
  replace b2 : ∀ i, i < v_n v → M 70 i = v_tx v i := b2
  replace b3 : M 69 5 = nI (v_q v) := b3
  replace o1 : M 69 6 = v_mk v := o1
  replace w1 : M 69 7 = nI (v_t v) := w1
  replace w2 : M 69 8 = v_l v := w2
  replace w3 : M 69 9 = nI (v_g v) := w3
  replace w4 : M 69 17 = nI (v_y v) := w4
  replace w5 : M 69 24 = nI (v_ud v) := w5
  replace w6 : M 69 15 = nI (v_ya v) := w6
  replace w7 : M 69 16 = nI (v_yl v) := w7
  replace u1 : M 69 23 = nI (v_m v) := u1
  replace i1 : v_n v ≤ 100 := i1
  replace i2 : v_q v ≤ v_n v := i2
  replace iP1 : iP (v_n v) (v_P v) := iP1
  replace j1 : 1 ≤ v_t v := j1
  replace j2 : v_t v ≤ 9 := j2
  replace j3 : v_g v ≤ 100 := j3
  obtain ⟨c1, r0, r1, r2, r3, k0, k1, k2, k3, hd⟩ := xK.rows hK
  obtain ⟨d1, d2⟩ := id hKm
  replace c1 : X 6 1 = nI (v_kc v) := c1
  replace d1 : M 69 14 = nI (v_kc v) := d1
  replace d2 : ∀ i, i < 4 → M 76 i = nI (v_kl v i) ∧ ∀ j, j < v_kl v i → M 75 (i * 100 + j) = v_kt v i j := d2
  replace k0 : ed_kr X G 0 r0 (v_kl v 0) (v_kt v 0) := k0
  replace k1 : ed_kr X G 1 r1 (v_kl v 1) (v_kt v 1) := k1
  replace k2 : ed_kr X G 2 r2 (v_kl v 2) (v_kt v 2) := k2
  replace k3 : ed_kr X G 3 r3 (v_kl v 3) (v_kt v 3) := k3
  have q1 : v_kc v ≤ 4 := iK1.1
  have q2 : ∀ i, i < 4 → v_kl v i ≤ 100 := iK1.2
  have hT := ed_TI_of hX hI hm
  have hR := ed_RB_of hM hI hm
  rcases id iP1.1 with hk | ⟨k, hk1, hk2⟩
  · exact Or.inl ⟨-2, by decide, ⟨_, _, sE_co12b hG a3 (by omega) (p1.trans hk) (sE_copy0 (by omega) (Nat.le_refl _)), ed_CF.rf hX⟩, ⟨_, hM, fun K GM hGM => sR_wk12 (sR_killRegion0 (J := mm_mx K M) (o1.trans hk))⟩⟩
  · by_cases hkq : k = v_q v
    · exact Or.inl ⟨-2, by decide, ⟨_, _, sE_co12a hG a3 (by omega) (p1.trans hk2) (by omega) (sE_copy0 (by omega) (by omega)), ed_CF.rf hX⟩, ⟨_, hM, fun K GM hGM => sR_wk12 (sR_killRegion1 (J := mm_mx K M) hGM b3 (by omega) (o1.trans hk2) (by omega) hkq)⟩⟩
    · have hqd : min k (v_q v) + (max k (v_q v) - min k (v_q v)) ≤ v_n v := by omega
      obtain ⟨M1, e1, e2⟩ := ed_kn_M (E := E) hM i1 iK1 (a := min k (v_q v)) (d := max k (v_q v) - min k (v_q v)) hqd
      have cX := sE_copy1 hG hT k0.1 k1.1 k2.1 k3.1 k0.2.1.sh.1 k1.2.1.sh.1 k2.2.1.sh.1 k3.2.1.sh.1 k3.2.1.sh.2 c1 q1 (E := E) (a := (min k (v_q v))) (b := (max k (v_q v))) (by omega) (by omega)
      refine Or.inr ⟨ed_vN v (min k (v_q v)) (max k (v_q v) - min k (v_q v)), ⟨_, _, sE_co12a hG a3 (by omega) (p1.trans hk2) (by omega) cX, (ed_CF.rf hX).kn k0 k1 k2 k3 hd hqd⟩, ⟨M1, e1, fun K GM hGM => sR_wk12 (sR_killRegion2 (J := mm_mx K M) (J2 := mm_mx K M1) hGM b3 (by omega) (o1.trans hk2) (by omega) hkq (e2 K GM hGM))⟩, ⟨⟨⟨i1, i2⟩, iP1, ⟨Nat.min_le_right _ _, fun i hi => ?_⟩, iH1, ⟨Nat.le_refl 1, (by decide : 1 ≤ 9), j3⟩, iE1, iN1, iB1⟩, iC_no (k := 12) rfl (by decide)⟩, Nat.le_succ _, rfl⟩
      · show (if i = 0 then max k (v_q v) - min k (v_q v) else v_kl v (i - 1)) ≤ 100
        split
        · omega
        · exact q2 (i - 1) (by omega)
theorem ed_yk_M {E : mm_E} {v : ed_V} {M : mm_J} (hM : ed_CM v M) (hn : v_n v ≤ 100) (hP : iP (v_n v) (v_P v)) (hH : iH (v_n v) (v_H v)) (hm : v_m v < 2 ^ 29) {k p d : Nat} (hk : k < 4) (hl : v_kl v k ≤ 100) (hpd : p + d ≤ v_n v) (hs : v_n v - d + v_kl v k ≤ 100) : ed_sM E qR_yank [.ref 69, .int (nI p), .int (nI d), .int (nI k)] M (some (.int (nI 0))) (((ed_vE v (v_kt v k) p d (v_kl v k)).1.1, (ed_vE v (v_kt v k) p d (v_kl v k)).1.2.1, (p + v_kl v k)), (nI p, (ed_vE v (v_kt v k) p d (v_kl v k)).2.1.2.1, (ed_vE v (v_kt v k) p d (v_kl v k)).2.1.2.2), (ed_vE v (v_kt v k) p d (v_kl v k)).2.2.1, (ed_vE v (v_kt v k) p d (v_kl v k)).2.2.2.1, ((ed_vE v (v_kt v k) p d (v_kl v k)).2.2.2.2.1.1, (ed_vE v (v_kt v k) p d (v_kl v k)).2.2.2.2.1.2.1, (ed_vE v (v_kt v k) p d (v_kl v k)).2.2.2.2.1.2.2.1, k, (ed_vE v (v_kt v k) p d (v_kl v k)).2.2.2.2.1.2.2.2.2.1, p, v_kl v k), (ed_vE v (v_kt v k) p d (v_kl v k)).2.2.2.2.2.1, (ed_vE v (v_kt v k) p d (v_kl v k)).2.2.2.2.2.2.1, (ed_vE v (v_kt v k) p d (v_kl v k)).2.2.2.2.2.2.2) := by
  obtain ⟨hk1, hk2⟩ := hM.2.2.1.2 k hk
  have h1 : ed_CM v (mm_cp (mm_set M 69 4 (nI (v_kl v k))) 75 72 (k * 100) 0 (v_kl v k)) := hM
  refine ⟨_, ((((((h1.edit (p := p) (d := d) (s := v_kl v k) (fr := v_kt v k) (fun i hi => ?_) hn hpd hH.hb).q (p + v_kl v k)).mk (nI p)).ya p).yl (v_kl v k)).y k), fun K GM hGM => ?_⟩
  · rw [mm_cp_at, va_cpy_y (by omega) (by omega)]
    exact hk2 i hi
  · have c := sR_yank1 (E := E) (J := mm_mx K M) hGM (ed_RB2 hM hn hP hm) hk hk1 hl hpd hs
    rw [mx_set (by decide), mx_cp (by decide) (by decide), mx_RS, mx_set (by decide), mx_set (by decide), mx_set (by decide), mx_set (by decide), mx_set (by decide)] at c
    exact c
theorem wp_13 {E : mm_E} {v : ed_V} {X : mm_J} {G : mm_G} {M : mm_J} (hX : ed_CX v X G) (hM : ed_CM v M) (hI : ed_I v) (hm : v_m v < 2 ^ 29) : ed_WP E 13 v X G M := by
  obtain ⟨hG, ⟨a1, a2, a3⟩, ⟨p1, p2, p3, p4⟩, hK, ⟨s1, s2⟩, ⟨t1, t2, t3, t4, t5⟩, hE, hN, hB⟩ := id hX
  obtain ⟨⟨b1, b2, b3⟩, ⟨o1, o2, o3⟩, hKm, ⟨u1, u2⟩, ⟨w1, w2, w3, w4, w5, w6, w7⟩, hEm, hNm, hBm⟩ := id hM
  obtain ⟨⟨⟨i1, i2⟩, iP1, iK1, iH1, ⟨j1, j2, j3⟩, iE1, iN1, iB1⟩, iC1⟩ := id hI
  replace a1 : X 2 1 = nI (v_n v) := a1
  replace a2 : ∀ i, i < v_n v → X 3 i = v_tx v i := a2
  replace a3 : X 1 3 = nI (v_q v) := a3
  replace p1 : X 4 4 = v_mk v := p1
  replace s1 : X 16 3 = nI (v_m v) := s1
  replace t1 : X 0 7 = nI (v_t v) := t1
  replace t2 : X 0 8 = v_l v := t2
  replace t3 : X 0 9 = nI (v_g v) := t3
  replace t4 : X 0 10 = nI (v_y v) := t4
  replace t5 : X 0 11 = nI (v_ud v) := t5
  replace b1 : M 69 3 = nI (v_n v) := b1
  replace b2 : ∀ i, i < v_n v → M 70 i = v_tx v i := b2
  replace b3 : M 69 5 = nI (v_q v) := b3
  replace o1 : M 69 6 = v_mk v := o1
  replace w1 : M 69 7 = nI (v_t v) := w1
  replace w2 : M 69 8 = v_l v := w2
  replace w3 : M 69 9 = nI (v_g v) := w3
  replace w4 : M 69 17 = nI (v_y v) := w4
  replace w5 : M 69 24 = nI (v_ud v) := w5
  replace w6 : M 69 15 = nI (v_ya v) := w6
  replace w7 : M 69 16 = nI (v_yl v) := w7
  replace u1 : M 69 23 = nI (v_m v) := u1
  replace i1 : v_n v ≤ 100 := i1
  replace i2 : v_q v ≤ v_n v := i2
  replace iP1 : iP (v_n v) (v_P v) := iP1
  replace j1 : 1 ≤ v_t v := j1
  replace j2 : v_t v ≤ 9 := j2
  replace j3 : v_g v ≤ 100 := j3
  obtain ⟨c1, r0, r1, r2, r3, k0, k1, k2, k3, hd⟩ := xK.rows hK
  obtain ⟨d1, d2⟩ := id hKm
  replace c1 : X 6 1 = nI (v_kc v) := c1
  replace d1 : M 69 14 = nI (v_kc v) := d1
  replace d2 : ∀ i, i < 4 → M 76 i = nI (v_kl v i) ∧ ∀ j, j < v_kl v i → M 75 (i * 100 + j) = v_kt v i j := d2
  replace k0 : ed_kr X G 0 r0 (v_kl v 0) (v_kt v 0) := k0
  replace k1 : ed_kr X G 1 r1 (v_kl v 1) (v_kt v 1) := k1
  replace k2 : ed_kr X G 2 r2 (v_kl v 2) (v_kt v 2) := k2
  replace k3 : ed_kr X G 3 r3 (v_kl v 3) (v_kt v 3) := k3
  have q1 : v_kc v ≤ 4 := iK1.1
  have q2 : ∀ i, i < 4 → v_kl v i ≤ 100 := iK1.2
  have hT := ed_TI_of hX hI hm
  have hR := ed_RB_of hM hI hm
  by_cases hc : v_kc v = 0
  · exact Or.inl ⟨-2, by decide, ⟨_, _, sE_co13 hG a3 (sE_putKill0 hG c1 q1 (by omega) (by decide)), ed_CF.rf hX⟩, ⟨_, hM, fun K GM hGM => sR_wk13x (J := mm_mx K M) hGM d1 q1 b3 hc⟩⟩
  · have hl := q2 0 (by decide)
    by_cases hf : 100 < v_n v - 0 + v_kl v 0
    · exact Or.inl ⟨-3, by decide, ⟨_, _, sE_co13 hG a3 (sE_putKill1 (d := 0) hG hT c1 q1 (by omega) k0.1 k0.2.1.sh.1 k0.2.1.sh.2 k0.2.2.1 hl a3 (by omega) i2 hf), ed_CF.rf hX⟩, ⟨_, hM, fun K GM hGM => sR_wk13 (J := mm_mx K M) hGM d1 q1 b3 (by omega) (sR_yank0 (J := mm_mx K M) hGM hR (by decide) (d2 0 (by decide)).1 hl (by omega) hf)⟩⟩
    · obtain ⟨M1, e1, e2⟩ := ed_yk_M (E := E) hM i1 iP1 iH1 hm (k := 0) (p := v_q v) (d := 0) (by decide) hl (by omega) (by omega)
      refine Or.inr ⟨(((ed_vE v (v_kt v 0) (v_q v) 0 (v_kl v 0)).1.1, (ed_vE v (v_kt v 0) (v_q v) 0 (v_kl v 0)).1.2.1, ((v_q v) + v_kl v 0)), (nI (v_q v), (ed_vE v (v_kt v 0) (v_q v) 0 (v_kl v 0)).2.1.2.1, (ed_vE v (v_kt v 0) (v_q v) 0 (v_kl v 0)).2.1.2.2), (ed_vE v (v_kt v 0) (v_q v) 0 (v_kl v 0)).2.2.1, (ed_vE v (v_kt v 0) (v_q v) 0 (v_kl v 0)).2.2.2.1, ((ed_vE v (v_kt v 0) (v_q v) 0 (v_kl v 0)).2.2.2.2.1.1, (ed_vE v (v_kt v 0) (v_q v) 0 (v_kl v 0)).2.2.2.2.1.2.1, (ed_vE v (v_kt v 0) (v_q v) 0 (v_kl v 0)).2.2.2.2.1.2.2.1, 0, (ed_vE v (v_kt v 0) (v_q v) 0 (v_kl v 0)).2.2.2.2.1.2.2.2.2.1, (v_q v), v_kl v 0), (ed_vE v (v_kt v 0) (v_q v) 0 (v_kl v 0)).2.2.2.2.2.1, (ed_vE v (v_kt v 0) (v_q v) 0 (v_kl v 0)).2.2.2.2.2.2.1, (ed_vE v (v_kt v 0) (v_q v) 0 (v_kl v 0)).2.2.2.2.2.2.2), ⟨_, _, sE_co13 hG a3 (sE_putKill2 (d := 0) hG hT c1 q1 (by omega) k0.1 k0.2.1.sh.1 k0.2.1.sh.2 k0.2.2.1 hl a3 (by omega) i2 (by omega)), ((((ed_CF.rf hX).edit (x := r0) (p := (v_q v)) (d := 0) (s := v_kl v 0) (fr := v_kt v 0) ⟨k0.2.1.sh.2.1, Or.inl k0.2.1.sh.2.2⟩ k0.2.2.2 (by omega)).y 0).q ((v_q v) + v_kl v 0)).mk (nI (v_q v))⟩, ⟨M1, e1, fun K GM hGM => sR_wk13 (J := mm_mx K M) hGM d1 q1 b3 (by omega) (e2 K GM hGM)⟩, ⟨ed_I0.ed hI.1 (by omega) (by omega) (by omega) (Or.inr ⟨v_q v, by omega, rfl⟩) ⟨Nat.le_refl 1, (by decide : 1 ≤ 9), j3⟩, iC_13 (k := 13) rfl (Or.inl rfl) ⟨by show 0 < v_kc v; omega, rfl, rfl⟩⟩, Nat.le_refl _, rfl⟩
theorem wp_14 {E : mm_E} {v : ed_V} {X : mm_J} {G : mm_G} {M : mm_J} (hX : ed_CX v X G) (hM : ed_CM v M) (hI : ed_I v) (hm : v_m v < 2 ^ 29) : ed_WP E 14 v X G M := by
  obtain ⟨hG, ⟨a1, a2, a3⟩, ⟨p1, p2, p3, p4⟩, hK, ⟨s1, s2⟩, ⟨t1, t2, t3, t4, t5⟩, hE, hN, hB⟩ := id hX
  obtain ⟨⟨b1, b2, b3⟩, ⟨o1, o2, o3⟩, hKm, ⟨u1, u2⟩, ⟨w1, w2, w3, w4, w5, w6, w7⟩, hEm, hNm, hBm⟩ := id hM
  obtain ⟨⟨⟨i1, i2⟩, iP1, iK1, iH1, ⟨j1, j2, j3⟩, iE1, iN1, iB1⟩, iC1⟩ := id hI
  replace a1 : X 2 1 = nI (v_n v) := a1
  replace a2 : ∀ i, i < v_n v → X 3 i = v_tx v i := a2
  replace a3 : X 1 3 = nI (v_q v) := a3
  replace p1 : X 4 4 = v_mk v := p1
  replace s1 : X 16 3 = nI (v_m v) := s1
  replace t1 : X 0 7 = nI (v_t v) := t1
  replace t2 : X 0 8 = v_l v := t2
  replace t3 : X 0 9 = nI (v_g v) := t3
  replace t4 : X 0 10 = nI (v_y v) := t4
  replace t5 : X 0 11 = nI (v_ud v) := t5
  replace b1 : M 69 3 = nI (v_n v) := b1
  replace b2 : ∀ i, i < v_n v → M 70 i = v_tx v i := b2
  replace b3 : M 69 5 = nI (v_q v) := b3
  replace o1 : M 69 6 = v_mk v := o1
  replace w1 : M 69 7 = nI (v_t v) := w1
  replace w2 : M 69 8 = v_l v := w2
  replace w3 : M 69 9 = nI (v_g v) := w3
  replace w4 : M 69 17 = nI (v_y v) := w4
  replace w5 : M 69 24 = nI (v_ud v) := w5
  replace w6 : M 69 15 = nI (v_ya v) := w6
  replace w7 : M 69 16 = nI (v_yl v) := w7
  replace u1 : M 69 23 = nI (v_m v) := u1
  replace i1 : v_n v ≤ 100 := i1
  replace i2 : v_q v ≤ v_n v := i2
  replace iP1 : iP (v_n v) (v_P v) := iP1
  replace j1 : 1 ≤ v_t v := j1
  replace j2 : v_t v ≤ 9 := j2
  replace j3 : v_g v ≤ 100 := j3
  obtain ⟨c1, r0, r1, r2, r3, k0, k1, k2, k3, hd⟩ := xK.rows hK
  obtain ⟨d1, d2⟩ := id hKm
  replace c1 : X 6 1 = nI (v_kc v) := c1
  replace d1 : M 69 14 = nI (v_kc v) := d1
  replace d2 : ∀ i, i < 4 → M 76 i = nI (v_kl v i) ∧ ∀ j, j < v_kl v i → M 75 (i * 100 + j) = v_kt v i j := d2
  replace k0 : ed_kr X G 0 r0 (v_kl v 0) (v_kt v 0) := k0
  replace k1 : ed_kr X G 1 r1 (v_kl v 1) (v_kt v 1) := k1
  replace k2 : ed_kr X G 2 r2 (v_kl v 2) (v_kt v 2) := k2
  replace k3 : ed_kr X G 3 r3 (v_kl v 3) (v_kt v 3) := k3
  have q1 : v_kc v ≤ 4 := iK1.1
  have q2 : ∀ i, i < 4 → v_kl v i ≤ 100 := iK1.2
  have hT := ed_TI_of hX hI hm
  have hR := ed_RB_of hM hI hm
  by_cases hl : v_l v = nI 13 ∨ v_l v = nI 14
  · obtain ⟨y1, y2, y3⟩ := iC1.1 hl
    have hN4 : (if v_y v + 1 < v_kc v then v_y v + 1 else 0) < 4 := by split <;> omega
    have hNc : (if v_y v + 1 < v_kc v then v_y v + 1 else 0) < v_kc v := by split <;> omega
    have eN : (v_y v + 1) % v_kc v = (if v_y v + 1 < v_kc v then v_y v + 1 else 0) := by
      split
      · exact Nat.mod_eq_of_lt (by assumption)
      · rw [show v_y v + 1 = v_kc v by omega, Nat.mod_self]
    obtain ⟨r, kr⟩ := xK.row hK hN4
    generalize hN : (if v_y v + 1 < v_kc v then v_y v + 1 else 0) = N at *
    replace kr : ed_kr X G N r (v_kl v N) (v_kt v N) := kr
    have hlN := q2 N hN4
    have hya : v_q v - v_ya v = v_yl v := by omega
    have c0 := sE_olderKill1 (E := E) hG (by rw [t2]; exact hl) c1 q1 t4 y1
    rw [hN] at c0
    by_cases hf : 100 < v_n v - v_yl v + v_kl v N
    · exact Or.inl ⟨-3, by decide, ⟨_, _, sE_co14 hG c0 (p1.trans y2) (sE_putKill1 (d := v_yl v) hG hT c1 q1 hNc kr.1 kr.2.1.sh.1 kr.2.1.sh.2 kr.2.2.1 hlN a3 (by omega) i2 hf), ed_CF.rf hX⟩, ⟨_, hM, fun K GM hGM => sR_wk14 (J := mm_mx K M) (by rw [← w2] at hl; exact hl) d1 q1 w4 y1 w6 w7 (by rw [eN]; exact sR_yank0 (J := mm_mx K M) hGM hR hN4 (d2 N hN4).1 hlN (by omega) hf)⟩⟩
    · obtain ⟨M1, e1, e2⟩ := ed_yk_M (E := E) hM i1 iP1 iH1 hm (k := N) (p := v_ya v) (d := v_yl v) hN4 hlN (by omega) (by omega)
      have cX := sE_putKill2 (E := E) (p := v_ya v) (d := v_yl v) hG hT c1 q1 hNc kr.1 kr.2.1.sh.1 kr.2.1.sh.2 kr.2.2.1 hlN a3 (by omega) i2 (by omega)
      refine Or.inr ⟨(((ed_vE v (v_kt v N) (v_ya v) (v_yl v) (v_kl v N)).1.1, (ed_vE v (v_kt v N) (v_ya v) (v_yl v) (v_kl v N)).1.2.1, ((v_ya v) + v_kl v N)), (nI (v_ya v), (ed_vE v (v_kt v N) (v_ya v) (v_yl v) (v_kl v N)).2.1.2.1, (ed_vE v (v_kt v N) (v_ya v) (v_yl v) (v_kl v N)).2.1.2.2), (ed_vE v (v_kt v N) (v_ya v) (v_yl v) (v_kl v N)).2.2.1, (ed_vE v (v_kt v N) (v_ya v) (v_yl v) (v_kl v N)).2.2.2.1, ((ed_vE v (v_kt v N) (v_ya v) (v_yl v) (v_kl v N)).2.2.2.2.1.1, (ed_vE v (v_kt v N) (v_ya v) (v_yl v) (v_kl v N)).2.2.2.2.1.2.1, (ed_vE v (v_kt v N) (v_ya v) (v_yl v) (v_kl v N)).2.2.2.2.1.2.2.1, N, (ed_vE v (v_kt v N) (v_ya v) (v_yl v) (v_kl v N)).2.2.2.2.1.2.2.2.2.1, (v_ya v), v_kl v N), (ed_vE v (v_kt v N) (v_ya v) (v_yl v) (v_kl v N)).2.2.2.2.2.1, (ed_vE v (v_kt v N) (v_ya v) (v_yl v) (v_kl v N)).2.2.2.2.2.2.1, (ed_vE v (v_kt v N) (v_ya v) (v_yl v) (v_kl v N)).2.2.2.2.2.2.2), ⟨_, _, sE_co14 hG c0 (p1.trans y2) cX, ((((ed_CF.rf hX).edit (x := r) (p := (v_ya v)) (d := (v_yl v)) (s := v_kl v N) (fr := v_kt v N) ⟨kr.2.1.sh.2.1, Or.inl kr.2.1.sh.2.2⟩ kr.2.2.2 (by omega)).y N).q ((v_ya v) + v_kl v N)).mk (nI (v_ya v))⟩, ⟨M1, e1, fun K GM hGM => sR_wk14 (J := mm_mx K M) (by rw [← w2] at hl; exact hl) d1 q1 w4 y1 w6 w7 (by rw [eN]; exact e2 K GM hGM)⟩, ⟨ed_I0.ed hI.1 (by omega) (by omega) (by omega) (Or.inr ⟨v_ya v, by omega, rfl⟩) ⟨Nat.le_refl 1, (by decide : 1 ≤ 9), j3⟩, iC_13 (k := 14) rfl (Or.inr rfl) ⟨hNc, rfl, rfl⟩⟩, Nat.le_refl _, rfl⟩
  · have hl1 : ¬ v_l v = nI 13 := fun q => hl (Or.inl q)
    have hl2 : ¬ v_l v = nI 14 := fun q => hl (Or.inr q)
    exact Or.inl ⟨-2, by decide, ⟨_, _, sE_co14 hG (sE_olderKill0 (by rw [t2]; exact ⟨hl1, hl2⟩)) rfl sE_putKillN, ed_CF.rf hX⟩, ⟨_, hM, fun K GM hGM => sR_wk14x (J := mm_mx K M) (by rw [← w2] at hl1 hl2; exact ⟨hl1, hl2⟩)⟩⟩
