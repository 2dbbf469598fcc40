def ed_go (bd : Nat → Nat) (row : Nat) : Nat → Nat
  | 0 => 0
  | i + 1 => ed_go bd row i + (if bd i = row ∨ ed_lg (bd i) row = true then 1 else 0)
theorem ed_go_le (bd : Nat → Nat) (row : Nat) : ∀ i, ed_go bd row i ≤ i
  | 0 => Nat.le_refl 0
  | i + 1 => by
    have := ed_go_le bd row i
    unfold ed_go
    split <;> omega
theorem ed_go_len {J : mm_J} {bd : Nat → Nat} {row : Nat} (hr : row < 6000) : ∀ c, (∀ i, i < c → J 61 i = nI (bd i) ∧ bd i < 5000) → ((ed_L J c).filter (ed_kp row (row + ed_sp row))).length = c - ed_go bd row c
  | 0, _ => rfl
  | c + 1, hb => by
    have h1 := ed_go_len (J := J) (bd := bd) hr c (fun i hi => hb i (by omega))
    have h2 := ed_go_le bd row c
    have h3 := hb c (by omega)
    have h4 := ed_sp_le row
    rw [ed_L_s, List.filter_append, List.length_append, h1, ed_go]
    by_cases hk : bd c = row ∨ ed_lg (bd c) row = true
    · rw [List.filter_cons_of_neg (by
        simp only [ed_kp, decide_eq_true_eq, h3.1]
        rw [nI_ltI (by omega) (by omega), nI_ltI (by omega) (by omega)]
        simp only [ed_lg, decide_eq_true_eq] at hk
        omega), if_pos hk]
      simp only [List.filter_nil, List.length_nil]
      omega
    · rw [List.filter_cons_of_pos (by
        simp only [ed_kp, decide_eq_true_eq, h3.1]
        rw [nI_ltI (by omega) (by omega), nI_ltI (by omega) (by omega)]
        simp only [ed_lg, decide_eq_true_eq] at hk
        omega), if_neg hk]
      simp only [List.filter_nil, List.length_cons, List.length_nil]
      omega
/-- the bindings are the list l now -/
def ed_AP (J : mm_J) (G : mm_G) (l : List (Int32 × Int32)) : mm_T := fun r n J' G' => G' = G ∧ r = some (.int (nI 0)) ∧ n = 86 ∧ (∃ c', c' ≤ 24 ∧ J' 60 2 = nI c' ∧ ed_L J' c' = l) ∧ J' 60 3 = J 60 3 ∧ (∀ i, ¬ i = 60 → ¬ i = 61 → ¬ i = 62 → J' i = J i)
set_option maxRecDepth 100000 in
set_option maxHeartbeats 4000000 in
theorem lY_asgF {E : mm_E} {G : mm_G} {J : mm_J} (hG : mm_GI G) {c row : Nat} {num : Int32} {bd : Nat → Nat} (hc : J 60 2 = nI c) (hc2 : c ≤ 24) (hb : ∀ i, i < c → J 61 i = nI (bd i) ∧ bd i < 5000) (hrow : row < 6000) : ∀ (n i g : Nat), c - i = n → i ≤ c → g ≤ i → (∃ j, i ≤ j ∧ j < c ∧ ed_lg row (bd j) = true) → mm_Go E qY_assign 5 [some (.ref 60), some (.int (nI row)), some (.int num), some (.int (nI g)), some (.int (nI i))] [] 86 J G 0 0 (mm_Fm E qY_assign (mm_is (some (.int (-3))) 86 J G))
  | 0, i, g, hn, hi, hg, hx => by
    exact absurd hx (fun ⟨j, h1, h2, _⟩ => by omega)
  | n + 1, i, g, hn, hi, hg, hx => by
    obtain ⟨j, hj1, hj2, hj3⟩ := hx
    have hbi := hb i (by omega)
    refine mm_iload rfl rfl ?_
    refine mm_aload_n rfl rfl ?_
    refine mm_getI (x := nI c) rfl rfl rfl (by decide) rfl hc ?_
    refine mm_icmp_geN (tgt := 65) rfl (by decide) (by omega) (by omega) (fun h11 => ?_) (fun h11 => ?_)
    · exact absurd h11 (by omega)
    · refine mm_iload_n rfl rfl ?_
      refine mm_aload_n rfl rfl ?_
      refine mm_getR rfl rfl rfl (by decide) rfl (mm_gi hG 60 0 61 (by decide)) ?_
      refine mm_iload rfl rfl ?_
      refine mm_rdN (x := nI (bd i)) rfl (by decide) rfl (by decide) (by omega) (by decide) rfl (hb i (by omega)).1 ?_
      refine mm_isS2 (M2 := qY_isLonger) wd_287 qY_isLonger_k (by decide) (sY_isLonger (by omega) (by omega)) (Nat.le_of_ble_eq_true rfl) (by decide) (by decide) rfl (by decide) ?_
      refine mm_if_eqN (tgt := 31) rfl (by decide) (ed_b31 _) (fun h25 => ?_) (fun h25 => ?_)
      · refine mm_aload_n rfl rfl ?_
        refine mm_getR rfl rfl rfl (by decide) rfl (mm_gi hG 60 0 61 (by decide)) ?_
        refine mm_iload rfl rfl ?_
        refine mm_rdN (x := nI (bd i)) rfl (by decide) rfl (by decide) (by omega) (by decide) rfl (hb i (by omega)).1 ?_
        refine mm_iload_n rfl rfl ?_
        refine mm_icmp_eqN (tgt := 56) rfl (by decide) (by omega) (by omega) (fun h39 => ?_) (fun h39 => ?_)
        · refine mm_iincN rfl rfl (mm_inc1 _) (by decide) ?_
          refine mm_iincN rfl rfl (mm_inc1 _) (by decide) ?_
          refine mm_goto (tgt := 5) rfl (by decide) ?_
          exact lY_asgF hG hc hc2 hb hrow n (i + 1) _ (by omega) (by omega) (by omega) ⟨j, by
            rcases Nat.lt_or_eq_of_le hj1 with e | e
            · exact e
            · subst e
              exact absurd hj3 (by rw [ed_beq h25]; decide), hj2, hj3⟩
        · refine mm_aload_n rfl rfl ?_
          refine mm_getR rfl rfl rfl (by decide) rfl (mm_gi hG 60 0 61 (by decide)) ?_
          refine mm_iload rfl rfl ?_
          refine mm_rdN (x := nI (bd i)) rfl (by decide) rfl (by decide) (by omega) (by decide) rfl (hb i (by omega)).1 ?_
          refine mm_iload_n rfl rfl ?_
          refine mm_isS2 (M2 := qY_isLonger) wd_287 qY_isLonger_k (by decide) (sY_isLonger (by omega) (by omega)) (Nat.le_of_ble_eq_true rfl) (by decide) (by decide) rfl (by decide) ?_
          refine mm_if_eqN (tgt := 59) rfl (by decide) (ed_b31 _) (fun h53 => ?_) (fun h53 => ?_)
          · refine mm_iincN rfl rfl (mm_inc1 _) (by decide) ?_
            refine mm_goto (tgt := 5) rfl (by decide) ?_
            exact lY_asgF hG hc hc2 hb hrow n (i + 1) _ (by omega) (by omega) (by omega) ⟨j, by
              rcases Nat.lt_or_eq_of_le hj1 with e | e
              · exact e
              · subst e
                exact absurd hj3 (by rw [ed_beq h25]; decide), hj2, hj3⟩
          · refine mm_iincN rfl rfl (mm_inc1 _) (by decide) ?_
            refine mm_iincN rfl rfl (mm_inc1 _) (by decide) ?_
            refine mm_goto (tgt := 5) rfl (by decide) ?_
            exact lY_asgF hG hc hc2 hb hrow n (i + 1) _ (by omega) (by omega) (by omega) ⟨j, by
              rcases Nat.lt_or_eq_of_le hj1 with e | e
              · exact e
              · subst e
                exact absurd hj3 (by rw [ed_beq h25]; decide), hj2, hj3⟩
      · refine mm_bipush (v := -3) rfl (by decide) ?_
        refine mm_ireturn rfl rfl rfl (by decide) (by decide) ?_
        exact ⟨rfl, rfl, rfl, rfl⟩
set_option maxRecDepth 100000 in
set_option maxHeartbeats 4000000 in
theorem sY_assignF {E : mm_E} {G : mm_G} {J : mm_J} (hG : mm_GI G) {c row : Nat} {num : Int32} {bd : Nat → Nat} (hc : J 60 2 = nI c) (hc2 : c ≤ 24) (hb : ∀ i, i < c → J 61 i = nI (bd i) ∧ bd i < 5000) (hrow : row < 6000) (hx : ∃ j, j < c ∧ ed_lg row (bd j) = true) : mm_Ret E qY_assign [.ref 60, .int (nI row), .int num] 86 J G (some (.int (-3))) 86 J G := by
  refine mm_Met.of qY_assign_ok (by decide) (mm_cats rfl) (Nat.le_of_ble_eq_true rfl) ?_
  refine mm_iconst (v := nI 0) rfl (by decide) ?_
  refine mm_istore_n rfl (by decide) ?_
  refine mm_iconst (v := nI 0) rfl (by decide) ?_
  refine mm_istore rfl (by decide) ?_
  obtain ⟨j, h1, h2⟩ := hx
  exact lY_asgF hG hc hc2 hb hrow c 0 0 rfl (by omega) (by omega) ⟨j, by omega, h1, h2⟩
set_option maxRecDepth 100000 in
set_option maxHeartbeats 4000000 in
theorem lY_asgN {E : mm_E} {G : mm_G} {J : mm_J} (hG : mm_GI G) {c row : Nat} {num : Int32} {bd : Nat → Nat} (hc : J 60 2 = nI c) (hc2 : c ≤ 24) (hb : ∀ i, i < c → J 61 i = nI (bd i) ∧ bd i < 5000) (hrow : row < 6000) {F : mm_F} (hno : ∀ j, j < c → ed_lg row (bd j) = false) (kk : mm_Go E qY_assign 65 [some (.ref 60), some (.int (nI row)), some (.int num), some (.int (nI (ed_go bd row c))), some (.int (nI c))] [] 86 J G 0 0 F) : ∀ (n i : Nat), c - i = n → i ≤ c → mm_Go E qY_assign 5 [some (.ref 60), some (.int (nI row)), some (.int num), some (.int (nI (ed_go bd row i))), some (.int (nI i))] [] 86 J G 0 0 F
  | 0, i, hn, hi => by
    refine mm_iload rfl rfl ?_
    refine mm_aload_n rfl rfl ?_
    refine mm_getI (x := nI c) rfl rfl rfl (by decide) rfl hc ?_
    refine mm_icmp_geN (tgt := 65) rfl (by decide) (by omega) (by omega) (fun h11 => ?_) (fun h11 => ?_)
    · obtain rfl : c = i := by omega
      exact kk
    · exact absurd h11 (by omega)
  | n + 1, i, hn, hi => by
    have hbi := hb i (by omega)
    have hgl := ed_go_le bd row i
    refine mm_iload rfl rfl ?_
    refine mm_aload_n rfl rfl ?_
    refine mm_getI (x := nI c) rfl rfl rfl (by decide) rfl hc ?_
    refine mm_icmp_geN (tgt := 65) rfl (by decide) (by omega) (by omega) (fun h11 => ?_) (fun h11 => ?_)
    · exact absurd h11 (by omega)
    · refine mm_iload_n rfl rfl ?_
      refine mm_aload_n rfl rfl ?_
      refine mm_getR rfl rfl rfl (by decide) rfl (mm_gi hG 60 0 61 (by decide)) ?_
      refine mm_iload rfl rfl ?_
      refine mm_rdN (x := nI (bd i)) rfl (by decide) rfl (by decide) (by omega) (by decide) rfl (hb i (by omega)).1 ?_
      refine mm_isS2 (M2 := qY_isLonger) wd_287 qY_isLonger_k (by decide) (sY_isLonger (by omega) (by omega)) (Nat.le_of_ble_eq_true rfl) (by decide) (by decide) rfl (by decide) ?_
      refine mm_if_eqN (tgt := 31) rfl (by decide) (ed_b31 _) (fun h25 => ?_) (fun h25 => ?_)
      · refine mm_aload_n rfl rfl ?_
        refine mm_getR rfl rfl rfl (by decide) rfl (mm_gi hG 60 0 61 (by decide)) ?_
        refine mm_iload rfl rfl ?_
        refine mm_rdN (x := nI (bd i)) rfl (by decide) rfl (by decide) (by omega) (by decide) rfl (hb i (by omega)).1 ?_
        refine mm_iload_n rfl rfl ?_
        refine mm_icmp_eqN (tgt := 56) rfl (by decide) (by omega) (by omega) (fun h39 => ?_) (fun h39 => ?_)
        · refine mm_iincN rfl rfl (mm_inc1 _) (by decide) ?_
          refine mm_iincN rfl rfl (mm_inc1 _) (by decide) ?_
          refine mm_goto (tgt := 5) rfl (by decide) ?_
          have K := lY_asgN (E := E) hG hc hc2 hb hrow hno kk n (i + 1) (by omega) (by omega)
          rw [ed_go, if_pos (Or.inl h39)] at K
          exact K
        · refine mm_aload_n rfl rfl ?_
          refine mm_getR rfl rfl rfl (by decide) rfl (mm_gi hG 60 0 61 (by decide)) ?_
          refine mm_iload rfl rfl ?_
          refine mm_rdN (x := nI (bd i)) rfl (by decide) rfl (by decide) (by omega) (by decide) rfl (hb i (by omega)).1 ?_
          refine mm_iload_n rfl rfl ?_
          refine mm_isS2 (M2 := qY_isLonger) wd_287 qY_isLonger_k (by decide) (sY_isLonger (by omega) (by omega)) (Nat.le_of_ble_eq_true rfl) (by decide) (by decide) rfl (by decide) ?_
          refine mm_if_eqN (tgt := 59) rfl (by decide) (ed_b31 _) (fun h53 => ?_) (fun h53 => ?_)
          · refine mm_iincN rfl rfl (mm_inc1 _) (by decide) ?_
            refine mm_goto (tgt := 5) rfl (by decide) ?_
            have K := lY_asgN (E := E) hG hc hc2 hb hrow hno kk n (i + 1) (by omega) (by omega)
            rw [ed_go, if_neg (fun q => q.elim h39 (fun q => by rw [ed_beq h53] at q; exact absurd q (by decide))), Nat.add_zero] at K
            exact K
          · refine mm_iincN rfl rfl (mm_inc1 _) (by decide) ?_
            refine mm_iincN rfl rfl (mm_inc1 _) (by decide) ?_
            refine mm_goto (tgt := 5) rfl (by decide) ?_
            have K := lY_asgN (E := E) hG hc hc2 hb hrow hno kk n (i + 1) (by omega) (by omega)
            rw [ed_go, if_pos (Or.inr (ed_bne h53))] at K
            exact K
      · exact absurd (hno i (by omega)) (by rw [ed_bne h25]; decide)
set_option maxRecDepth 100000 in
set_option maxHeartbeats 400000 in
theorem sY_assignU {E : mm_E} {G : mm_G} {J : mm_J} (hG : mm_GI G) {c row : Nat} {bd : Nat → Nat} (hc : J 60 2 = nI c) (hc2 : c ≤ 24) (hb : ∀ i, i < c → J 61 i = nI (bd i) ∧ bd i < 5000) (hrow : row < 6000) (hno : ∀ j, j < c → ed_lg row (bd j) = false) : mm_Met E qY_assign [.ref 60, .int (nI row), .int (-1)] 86 J G (ed_AP J G ((ed_L J c).filter (ed_kp row (row + 1)))) := by
  refine mm_Met.of qY_assign_ok (by decide) (mm_cats rfl) (Nat.le_of_ble_eq_true rfl) ?_
  refine mm_iconst (v := nI 0) rfl (by decide) ?_
  refine mm_istore_n rfl (by decide) ?_
  refine mm_iconst (v := nI 0) rfl (by decide) ?_
  refine mm_istore rfl (by decide) ?_
  refine lY_asgN hG hc hc2 hb hrow hno ?_ c 0 rfl (Nat.zero_le _)
  refine mm_iload_n rfl rfl ?_
  refine mm_iconst (v := -1) rfl (by decide) ?_
  refine mm_icmp_ne (tgt := 80) rfl (by decide) (fun h67 => ?_) (fun h67 => ?_)
  · exact absurd rfl h67
  · refine mm_aload_n rfl rfl ?_
    refine mm_iload_n rfl rfl ?_
    refine mm_iload_n rfl rfl ?_
    refine mm_iconst (v := nI 1) rfl (by decide) ?_
    refine mm_iaddN rfl ?_
    refine mm_mV2 (M2 := qY_drop) wd_433 qY_drop_k (by decide) (sY_drop hG hc hc2) rfl (by decide) (Nat.le_of_ble_eq_true rfl) (by decide) (by decide) rfl (fun r n' J' G' hP => ?_)
    obtain ⟨rfl, rfl, rfl, ⟨c', hc'1, hc'2, hc'3⟩, hpn, hfr⟩ := hP
    refine ⟨Nat.le_refl _, ?_⟩
    refine mm_iconst (v := nI 0) rfl (by decide) ?_
    refine mm_ireturn rfl rfl rfl (by decide) (by decide) ?_
    exact ⟨rfl, rfl, rfl, ⟨c', by omega, hc'2, hc'3⟩, hpn, hfr⟩
set_option maxRecDepth 100000 in
set_option maxHeartbeats 4000000 in
theorem sY_assignX {E : mm_E} {G : mm_G} {J : mm_J} (hG : mm_GI G) {c row : Nat} {num : Int32} {bd : Nat → Nat} (hc : J 60 2 = nI c) (hc2 : c ≤ 24) (hb : ∀ i, i < c → J 61 i = nI (bd i) ∧ bd i < 5000) (hrow : row < 6000) (hno : ∀ j, j < c → ed_lg row (bd j) = false) (hnum : ¬ num = -1) (hfull : 24 ≤ c - ed_go bd row c) : mm_Ret E qY_assign [.ref 60, .int (nI row), .int num] 86 J G (some (.int (-3))) 86 J G := by
  refine mm_Met.of qY_assign_ok (by decide) (mm_cats rfl) (Nat.le_of_ble_eq_true rfl) ?_
  refine mm_iconst (v := nI 0) rfl (by decide) ?_
  refine mm_istore_n rfl (by decide) ?_
  refine mm_iconst (v := nI 0) rfl (by decide) ?_
  refine mm_istore rfl (by decide) ?_
  refine lY_asgN hG hc hc2 hb hrow hno ?_ c 0 rfl (Nat.zero_le _)
  have hgl := ed_go_le bd row c
  refine mm_iload_n rfl rfl ?_
  refine mm_iconst (v := -1) rfl (by decide) ?_
  refine mm_icmp_ne (tgt := 80) rfl (by decide) (fun h67 => ?_) (fun h67 => ?_)
  · refine mm_aload_n rfl rfl ?_
    refine mm_getI (x := nI c) rfl rfl rfl (by decide) rfl hc ?_
    refine mm_iload_n rfl rfl ?_
    refine mm_isubN rfl (by omega) ?_
    refine mm_bipush (v := nI 24) rfl (by decide) ?_
    refine mm_icmp_ltN (tgt := 94) rfl (by decide) (by omega) (by omega) (fun h88 => ?_) (fun h88 => ?_)
    · exact absurd h88 (by omega)
    · refine mm_bipush (v := -3) rfl (by decide) ?_
      refine mm_ireturn rfl rfl rfl (by decide) (by decide) ?_
      exact ⟨rfl, rfl, rfl, rfl⟩
  · exact absurd h67 hnum
set_option maxRecDepth 100000 in
set_option maxHeartbeats 400000 in
theorem sY_assignB {E : mm_E} {G : mm_G} {J : mm_J} (hG : mm_GI G) {c row : Nat} {num : Int32} {bd : Nat → Nat} (hc : J 60 2 = nI c) (hc2 : c ≤ 24) (hb : ∀ i, i < c → J 61 i = nI (bd i) ∧ bd i < 5000) (hrow : row < 6000) (hno : ∀ j, j < c → ed_lg row (bd j) = false) (hnum : ¬ num = -1) (hfull : c - ed_go bd row c < 24) : mm_Met E qY_assign [.ref 60, .int (nI row), .int num] 86 J G (ed_AP J G ((ed_L J c).filter (ed_kp row (row + ed_sp row)) ++ [(nI row, num)])) := by
  refine mm_Met.of qY_assign_ok (by decide) (mm_cats rfl) (Nat.le_of_ble_eq_true rfl) ?_
  refine mm_iconst (v := nI 0) rfl (by decide) ?_
  refine mm_istore_n rfl (by decide) ?_
  refine mm_iconst (v := nI 0) rfl (by decide) ?_
  refine mm_istore rfl (by decide) ?_
  refine lY_asgN hG hc hc2 hb hrow hno ?_ c 0 rfl (Nat.zero_le _)
  have hgl := ed_go_le bd row c
  have hsp := ed_sp_le row
  refine mm_iload_n rfl rfl ?_
  refine mm_iconst (v := -1) rfl (by decide) ?_
  refine mm_icmp_ne (tgt := 80) rfl (by decide) (fun h67 => ?_) (fun h67 => ?_)
  · refine mm_aload_n rfl rfl ?_
    refine mm_getI (x := nI c) rfl rfl rfl (by decide) rfl hc ?_
    refine mm_iload_n rfl rfl ?_
    refine mm_isubN rfl (by omega) ?_
    refine mm_bipush (v := nI 24) rfl (by decide) ?_
    refine mm_icmp_ltN (tgt := 94) rfl (by decide) (by omega) (by omega) (fun h88 => ?_) (fun h88 => ?_)
    · refine mm_aload_n rfl rfl ?_
      refine mm_iload_n rfl rfl ?_
      refine mm_iload_n rfl rfl ?_
      refine mm_iload_n rfl rfl ?_
      refine mm_isS1 (M2 := qY_span) wd_284 qY_span_k (by decide) (sY_span (by omega)) (Nat.le_of_ble_eq_true rfl) (by decide) (by decide) rfl (by decide) ?_
      refine mm_iaddN rfl ?_
      refine mm_mV2 (M2 := qY_drop) wd_433 qY_drop_k (by decide) (sY_drop hG hc hc2) rfl (by decide) (Nat.le_of_ble_eq_true rfl) (by decide) (by decide) rfl (fun r n' J' G' hP => ?_)
      obtain ⟨rfl, rfl, rfl, ⟨c', hc'1, hc'2, hc'3⟩, hpn, hfr⟩ := hP
      refine ⟨Nat.le_refl _, ?_⟩
      have hc24 : c' < 24 := by
        have h1 := congrArg List.length hc'3
        rw [ed_L_l, ed_go_len hrow c hb] at h1
        omega
      refine mm_aload_n rfl rfl ?_
      refine mm_getR rfl rfl rfl (by decide) rfl (mm_gi hG 60 0 61 (by decide)) ?_
      refine mm_aload_n rfl rfl ?_
      refine mm_getI (x := nI c') rfl rfl rfl (by decide) rfl hc'2 ?_
      refine mm_iload_n rfl rfl ?_
      refine mm_wrN rfl (by decide) rfl (by decide) (by omega) (by decide) rfl ?_
      refine mm_aload_n rfl rfl ?_
      refine mm_getR rfl rfl rfl (by decide) rfl (mm_gi hG 60 1 62 (by decide)) ?_
      refine mm_aload_n rfl rfl ?_
      refine mm_getI (x := nI c') rfl rfl rfl (by decide) rfl (by simp [mm_set, hc'2]) ?_
      refine mm_iload_n rfl rfl ?_
      refine mm_wrN rfl (by decide) rfl (by decide) (by omega) (by decide) rfl ?_
      refine mm_aload_n rfl rfl ?_
      refine mm_dup rfl rfl ?_
      refine mm_getI (x := nI c') rfl rfl rfl (by decide) rfl (by simp [mm_set, hc'2]) ?_
      refine mm_iconst (v := nI 1) rfl (by decide) ?_
      refine mm_iaddN rfl ?_
      refine mm_putI rfl rfl rfl (by decide) rfl (Or.inl rfl) rfl rfl ?_
      refine mm_iconst (v := nI 0) rfl (by decide) ?_
      refine mm_ireturn rfl rfl rfl (by decide) (by decide) ?_
      refine ⟨rfl, rfl, rfl, ⟨c' + 1, by omega, by simp [mm_set], ?_⟩, by simp [mm_set, hpn], fun z h1 h2 h3 => by funext j; simp [mm_set, h1, h2, h3, hfr z h1 h2 h3]⟩
      rw [ed_L_s, ← hc'3, ed_L_c (J := J') (fun j hj => by simp [mm_set, show ¬ j = c' by omega])]
      simp [mm_set]
    · exact absurd h88 (by omega)
  · exact absurd h67 hnum
def ed_fit (a b d : Int32) : Bool := ed_ky a && ed_kn b && ed_kn d && (decide (¬ b = -1) || decide (d = -1))
set_option maxRecDepth 100000 in
set_option maxHeartbeats 400000 in
theorem lE_bind0 {E : mm_E} {G : mm_G} {J : mm_J} {a b d num : Int32} {fb : Nat} (hfb : fb < 2) (hx : fb = 0 ∨ num < -1 ∨ nI 21 < num) : mm_Go E qE_bind 36 [some (.ref 0), some (.int a), some (.int b), some (.int d), some (.int num), none] [.int (nI fb)] 86 J G 0 0 (mm_Fm E qE_bind (mm_is (some (.int (-1))) 86 J G)) := by
  refine mm_istore rfl (by decide) ?_
  refine mm_iload rfl rfl ?_
  refine mm_if_eqN (tgt := 56) rfl (by decide) (by omega) (fun h40 => ?_) (fun h40 => ?_)
  · refine mm_iconst (v := -1) rfl (by decide) ?_
    refine mm_ireturn rfl rfl rfl (by decide) (by decide) ?_
    exact ⟨rfl, rfl, rfl, rfl⟩
  · refine mm_iload rfl rfl ?_
    refine mm_iconst (v := -1) rfl (by decide) ?_
    refine mm_icmp_lt (tgt := 56) rfl (by decide) (fun h46 => ?_) (fun h46 => ?_)
    · refine mm_iconst (v := -1) rfl (by decide) ?_
      refine mm_ireturn rfl rfl rfl (by decide) (by decide) ?_
      exact ⟨rfl, rfl, rfl, rfl⟩
    · refine mm_iload rfl rfl ?_
      refine mm_bipush (v := nI 21) rfl (by decide) ?_
      refine mm_icmp_le (tgt := 58) rfl (by decide) (fun h53 => ?_) (fun h53 => ?_)
      · exact hx.elim (fun q => absurd q h40) (fun q => q.elim (fun q => absurd q h46) (fun q => absurd h53 (Int32.not_le.mpr q)))
      · refine mm_iconst (v := -1) rfl (by decide) ?_
        refine mm_ireturn rfl rfl rfl (by decide) (by decide) ?_
        exact ⟨rfl, rfl, rfl, rfl⟩
set_option maxRecDepth 100000 in
set_option maxHeartbeats 4000000 in
theorem sE_bind0 {E : mm_E} {G : mm_G} {J : mm_J} {a b d num : Int32} (hx : ed_fit a b d = false ∨ num < -1 ∨ nI 21 < num) : mm_Ret E qE_bind [.ref 0, .int a, .int b, .int d, .int num] 86 J G (some (.int (-1))) 86 J G := by
  refine mm_Met.of qE_bind_ok (by decide) (mm_cats rfl) (Nat.le_of_ble_eq_true rfl) ?_
  refine mm_iload_n rfl rfl ?_
  refine mm_isS1 (M2 := qE_isKey) wd_420 qE_isKey_k (by decide) sE_isKey (Nat.le_of_ble_eq_true rfl) (by decide) (by decide) rfl (by decide) ?_
  refine mm_if_eqN (tgt := 35) rfl (by decide) (ed_b31 _) (fun h4 => ?_) (fun h4 => ?_)
  · refine mm_iconst (v := nI 0) rfl (by decide) ?_
    exact lE_bind0 (fb := 0) (by decide) (Or.inl rfl)
  · refine mm_iload_n rfl rfl ?_
    refine mm_isS1 (M2 := qE_isKeyOrNone) wd_423 qE_isKeyOrNone_k (by decide) sE_isKeyOrNone (Nat.le_of_ble_eq_true rfl) (by decide) (by decide) rfl (by decide) ?_
    refine mm_if_eqN (tgt := 35) rfl (by decide) (ed_b31 _) (fun h11 => ?_) (fun h11 => ?_)
    · refine mm_iconst (v := nI 0) rfl (by decide) ?_
      exact lE_bind0 (fb := 0) (by decide) (Or.inl rfl)
    · refine mm_iload_n rfl rfl ?_
      refine mm_isS1 (M2 := qE_isKeyOrNone) wd_423 qE_isKeyOrNone_k (by decide) sE_isKeyOrNone (Nat.le_of_ble_eq_true rfl) (by decide) (by decide) rfl (by decide) ?_
      refine mm_if_eqN (tgt := 35) rfl (by decide) (ed_b31 _) (fun h18 => ?_) (fun h18 => ?_)
      · refine mm_iconst (v := nI 0) rfl (by decide) ?_
        exact lE_bind0 (fb := 0) (by decide) (Or.inl rfl)
      · refine mm_iload_n rfl rfl ?_
        refine mm_iconst (v := -1) rfl (by decide) ?_
        refine mm_icmp_ne (tgt := 31) rfl (by decide) (fun h23 => ?_) (fun h23 => ?_)
        · refine mm_iconst (v := nI 1) rfl (by decide) ?_
          refine mm_goto (tgt := 36) rfl (by decide) ?_
          exact lE_bind0 (fb := 1) (by decide) (Or.inr (hx.elim (fun q => absurd q (by simp [ed_fit, ed_bne h4, ed_bne h11, ed_bne h18, h23])) id))
        · refine mm_iload_n rfl rfl ?_
          refine mm_iconst (v := -1) rfl (by decide) ?_
          refine mm_icmp_ne (tgt := 35) rfl (by decide) (fun h28 => ?_) (fun h28 => ?_)
          · refine mm_iconst (v := nI 0) rfl (by decide) ?_
            exact lE_bind0 (fb := 0) (by decide) (Or.inl rfl)
          · refine mm_iconst (v := nI 1) rfl (by decide) ?_
            refine mm_goto (tgt := 36) rfl (by decide) ?_
            exact lE_bind0 (fb := 1) (by decide) (Or.inr (hx.elim (fun q => absurd q (by rw [show ed_fit a b d = true from by unfold ed_fit; rw [ed_bne h4, ed_bne h11, ed_bne h18]; simp [h28]]; decide)) id))
set_option maxRecDepth 100000 in
set_option maxHeartbeats 400000 in
theorem lE_bind1 {E : mm_E} {G : mm_G} {J : mm_J} (hG : mm_GI G) {a b1 d1 : Nat} {b d num : Int32} {Post : mm_T} (hb1 : b + nI 1 = nI b1) (hd1 : d + nI 1 = nI d1) (h1 : ¬ num < -1) (h2 : num ≤ nI 21) (hA : mm_Met E qY_assign [.ref 60, .int (nI ((a + 1) * 289 + b1 * 17 + d1)), .int num] 86 J G Post) (hr : ∀ r n J' G', Post r n J' G' → n = 86 ∧ ∃ x, r = some (.int x)) : mm_Go E qE_bind 36 [some (.ref 0), some (.int (nI a)), some (.int b), some (.int d), some (.int num), none] [.int (nI 1)] 86 J G 0 0 (mm_Fm E qE_bind Post) := by
  refine mm_istore rfl (by decide) ?_
  refine mm_iload rfl rfl ?_
  refine mm_if_eqN (tgt := 56) rfl (by decide) (by decide) (fun h40 => ?_) (fun h40 => ?_)
  · exact absurd h40 (by decide)
  · refine mm_iload rfl rfl ?_
    refine mm_iconst (v := -1) rfl (by decide) ?_
    refine mm_icmp_lt (tgt := 56) rfl (by decide) (fun h46 => ?_) (fun h46 => ?_)
    · exact absurd h46 h1
    · refine mm_iload rfl rfl ?_
      refine mm_bipush (v := nI 21) rfl (by decide) ?_
      refine mm_icmp_le (tgt := 58) rfl (by decide) (fun h53 => ?_) (fun h53 => ?_)
      · refine mm_aload_n rfl rfl ?_
        refine mm_getR rfl rfl rfl (by decide) rfl (mm_gi hG 0 3 60 (by decide)) ?_
        refine mm_iload_n rfl rfl ?_
        refine mm_iload_n rfl rfl ?_
        refine mm_iload_n rfl rfl ?_
        refine mm_isS3 (M2 := qY_join) wd_426 qY_join_k (by decide) (sY_join hb1 hd1) (Nat.le_of_ble_eq_true rfl) (by decide) (by decide) rfl (by decide) ?_
        refine mm_iload rfl rfl ?_
        refine mm_mV2 (M2 := qY_assign) wd_429 qY_assign_k (by decide) hA rfl (by decide) (Nat.le_of_ble_eq_true rfl) (by decide) (by decide) rfl (fun r n' J' G' hP => ?_)
        obtain ⟨rfl, x, rfl⟩ := hr _ _ _ _ hP
        refine ⟨Nat.le_refl _, ?_⟩
        refine mm_ireturn rfl rfl rfl (by decide) (by decide) ?_
        exact hP
      · exact absurd h2 h53
set_option maxRecDepth 100000 in
set_option maxHeartbeats 400000 in
theorem sE_bind1 {E : mm_E} {G : mm_G} {J : mm_J} (hG : mm_GI G) {a b1 d1 : Nat} {b d num : Int32} {Post : mm_T} (hb1 : b + nI 1 = nI b1) (hd1 : d + nI 1 = nI d1) (h1 : ¬ num < -1) (h2 : num ≤ nI 21) (hA : mm_Met E qY_assign [.ref 60, .int (nI ((a + 1) * 289 + b1 * 17 + d1)), .int num] 86 J G Post) (hr : ∀ r n J' G', Post r n J' G' → n = 86 ∧ ∃ x, r = some (.int x)) (hfit : ed_fit (nI a) b d = true) : mm_Met E qE_bind [.ref 0, .int (nI a), .int b, .int d, .int num] 86 J G Post := by
  refine mm_Met.of qE_bind_ok (by decide) (mm_cats rfl) (Nat.le_of_ble_eq_true rfl) ?_
  refine mm_iload_n rfl rfl ?_
  refine mm_isS1 (M2 := qE_isKey) wd_420 qE_isKey_k (by decide) sE_isKey (Nat.le_of_ble_eq_true rfl) (by decide) (by decide) rfl (by decide) ?_
  refine mm_if_eqN (tgt := 35) rfl (by decide) (ed_b31 _) (fun h4 => ?_) (fun h4 => ?_)
  · exact absurd hfit (by simp [ed_fit, ed_beq h4])
  · refine mm_iload_n rfl rfl ?_
    refine mm_isS1 (M2 := qE_isKeyOrNone) wd_423 qE_isKeyOrNone_k (by decide) sE_isKeyOrNone (Nat.le_of_ble_eq_true rfl) (by decide) (by decide) rfl (by decide) ?_
    refine mm_if_eqN (tgt := 35) rfl (by decide) (ed_b31 _) (fun h11 => ?_) (fun h11 => ?_)
    · exact absurd hfit (by simp [ed_fit, ed_beq h11])
    · refine mm_iload_n rfl rfl ?_
      refine mm_isS1 (M2 := qE_isKeyOrNone) wd_423 qE_isKeyOrNone_k (by decide) sE_isKeyOrNone (Nat.le_of_ble_eq_true rfl) (by decide) (by decide) rfl (by decide) ?_
      refine mm_if_eqN (tgt := 35) rfl (by decide) (ed_b31 _) (fun h18 => ?_) (fun h18 => ?_)
      · exact absurd hfit (by simp [ed_fit, ed_beq h18])
      · refine mm_iload_n rfl rfl ?_
        refine mm_iconst (v := -1) rfl (by decide) ?_
        refine mm_icmp_ne (tgt := 31) rfl (by decide) (fun h23 => ?_) (fun h23 => ?_)
        · refine mm_iconst (v := nI 1) rfl (by decide) ?_
          refine mm_goto (tgt := 36) rfl (by decide) ?_
          exact lE_bind1 hG hb1 hd1 h1 h2 hA hr
        · refine mm_iload_n rfl rfl ?_
          refine mm_iconst (v := -1) rfl (by decide) ?_
          refine mm_icmp_ne (tgt := 35) rfl (by decide) (fun h28 => ?_) (fun h28 => ?_)
          · exact absurd hfit (by simp [ed_fit, h23, h28])
          · refine mm_iconst (v := nI 1) rfl (by decide) ?_
            refine mm_goto (tgt := 36) rfl (by decide) ?_
            exact lE_bind1 hG hb1 hd1 h1 h2 hA hr
