set_option maxRecDepth 100000 in
set_option maxHeartbeats 4000000 in
theorem sE_isLetter {E : mm_E} {G : mm_G} {J : mm_J} {c : Int32} : mm_Ret E qE_isLetter [.int c] 86 J G (some (.int (nI (ed_b (ed_ltc c))))) 86 J G := by
  refine mm_Met.of qE_isLetter_ok (by decide) (mm_cats rfl) (Nat.le_of_ble_eq_true rfl) ?_
  refine mm_iload_n rfl rfl ?_
  refine mm_bipush (v := nI 97) rfl (by decide) ?_
  refine mm_icmp_lt (tgt := 16) rfl (by decide) (fun h3 => ?_) (fun h3 => ?_)
  · refine mm_iconst (v := nI 0) rfl (by decide) ?_
    refine mm_ireturn rfl rfl rfl (by decide) (by decide) ?_
    exact ⟨by rw [show ed_ltc c = false from by simp only [ed_ltc, decide_eq_false_iff_not]; exact fun q => absurd q.1 (Int32.not_le.mpr h3)]; rfl, rfl, rfl, rfl⟩
  · refine mm_iload_n rfl rfl ?_
    refine mm_bipush (v := nI 122) rfl (by decide) ?_
    refine mm_icmp_gt (tgt := 16) rfl (by decide) (fun h9 => ?_) (fun h9 => ?_)
    · refine mm_iconst (v := nI 0) rfl (by decide) ?_
      refine mm_ireturn rfl rfl rfl (by decide) (by decide) ?_
      exact ⟨by rw [show ed_ltc c = false from by simp only [ed_ltc, decide_eq_false_iff_not]; exact fun q => absurd q.2 (Int32.not_le.mpr h9)]; rfl, rfl, rfl, rfl⟩
    · refine mm_iconst (v := nI 1) rfl (by decide) ?_
      refine mm_goto (tgt := 17) rfl (by decide) ?_
      refine mm_ireturn rfl rfl rfl (by decide) (by decide) ?_
      exact ⟨by rw [show ed_ltc c = true from by simp [ed_ltc, Int32.not_lt.mp h3, Int32.not_lt.mp h9]]; rfl, rfl, rfl, rfl⟩
set_option maxRecDepth 100000 in
set_option maxHeartbeats 4000000 in
theorem sR_letter {E : mm_E} {G : mm_G} {J : mm_J} {c : Int32} : mm_Ret E qR_letter [.int c] 86 J G (some (.int (nI (ed_b (ed_ltc c))))) 86 J G := by
  refine mm_Met.of qR_letter_ok (by decide) (mm_cats rfl) (Nat.le_of_ble_eq_true rfl) ?_
  refine mm_iload_n rfl rfl ?_
  refine mm_bipush (v := nI 97) rfl (by decide) ?_
  refine mm_icmp_lt (tgt := 16) rfl (by decide) (fun h3 => ?_) (fun h3 => ?_)
  · refine mm_iconst (v := nI 0) rfl (by decide) ?_
    refine mm_ireturn rfl rfl rfl (by decide) (by decide) ?_
    exact ⟨by rw [show ed_ltc c = false from by simp only [ed_ltc, decide_eq_false_iff_not]; exact fun q => absurd q.1 (Int32.not_le.mpr h3)]; rfl, rfl, rfl, rfl⟩
  · refine mm_iload_n rfl rfl ?_
    refine mm_bipush (v := nI 122) rfl (by decide) ?_
    refine mm_icmp_gt (tgt := 16) rfl (by decide) (fun h9 => ?_) (fun h9 => ?_)
    · refine mm_iconst (v := nI 0) rfl (by decide) ?_
      refine mm_ireturn rfl rfl rfl (by decide) (by decide) ?_
      exact ⟨by rw [show ed_ltc c = false from by simp only [ed_ltc, decide_eq_false_iff_not]; exact fun q => absurd q.2 (Int32.not_le.mpr h9)]; rfl, rfl, rfl, rfl⟩
    · refine mm_iconst (v := nI 1) rfl (by decide) ?_
      refine mm_goto (tgt := 17) rfl (by decide) ?_
      refine mm_ireturn rfl rfl rfl (by decide) (by decide) ?_
      exact ⟨by rw [show ed_ltc c = true from by simp [ed_ltc, Int32.not_lt.mp h3, Int32.not_lt.mp h9]]; rfl, rfl, rfl, rfl⟩
set_option maxRecDepth 100000 in
set_option maxHeartbeats 4000000 in
theorem lT_lineBeginning {E : mm_E} {G : mm_G} {J : mm_J} (hG : mm_GI G) {p0 : Nat} : ∀ p : Nat, p ≤ 100 → mm_Go E qT_lineBeginning 2 [some (.ref 1), some (.int (nI p0)), some (.int (nI p))] [] 86 J G 0 0 (mm_Fm E qT_lineBeginning (mm_is (some (.int (nI (ed_lb (J 3) p)))) 86 J G))
  | 0, hp => by
    refine mm_iload_n rfl rfl ?_
    refine mm_if_leN (tgt := 28) rfl (by decide) (by omega) (fun h3 => ?_) (fun h3 => ?_)
    · refine mm_iload_n rfl rfl ?_
      refine mm_ireturn rfl rfl rfl (by decide) (by decide) ?_
      exact ⟨rfl, rfl, rfl, rfl⟩
    · exact absurd h3 (by omega)
  | p + 1, hp => by
    refine mm_iload_n rfl rfl ?_
    refine mm_if_leN (tgt := 28) rfl (by decide) (by omega) (fun h3 => ?_) (fun h3 => ?_)
    · exact absurd h3 (by omega)
    · refine mm_aload_n rfl rfl ?_
      refine mm_getR rfl rfl rfl (by decide) rfl (mm_gi hG 1 0 2 (by decide)) ?_
      refine mm_getR rfl rfl rfl (by decide) rfl (mm_gi hG 2 0 3 (by decide)) ?_
      refine mm_iload_n rfl rfl ?_
      refine mm_iconst (v := nI 1) rfl (by decide) ?_
      refine mm_isubN rfl (by omega) ?_
      refine mm_rdN rfl (by decide) rfl (by decide) (by omega) (by decide) rfl rfl ?_
      refine mm_bipush (v := nI 10) rfl (by decide) ?_
      refine mm_icmp_eq (tgt := 28) rfl (by decide) (fun h19 => ?_) (fun h19 => ?_)
      · refine mm_iload_n rfl rfl ?_
        refine mm_ireturn rfl rfl rfl (by decide) (by decide) ?_
        exact ⟨by rw [show ed_lb (J 3) (p + 1) = p + 1 from ed_dn_n (ed_nl_n h19)], rfl, rfl, rfl⟩
      · refine mm_iincN rfl rfl (mm_dec1 (by omega)) (by decide) ?_
        refine mm_goto (tgt := 2) rfl (by decide) ?_
        rw [show ed_lb (J 3) (p + 1) = ed_lb (J 3) p from ed_dn_y (ed_nl_y h19)]
        exact lT_lineBeginning hG p (by omega)
set_option maxRecDepth 100000 in
set_option maxHeartbeats 4000000 in
theorem sT_lineBeginning {E : mm_E} {G : mm_G} {J : mm_J} (hG : mm_GI G) {p : Nat} (hp : p ≤ 100) : mm_Ret E qT_lineBeginning [.ref 1, .int (nI p)] 86 J G (some (.int (nI (ed_lb (J 3) p)))) 86 J G := by
  refine mm_Met.of qT_lineBeginning_ok (by decide) (mm_cats rfl) (Nat.le_of_ble_eq_true rfl) ?_
  refine mm_iload_n rfl rfl ?_
  refine mm_istore_n rfl (by decide) ?_
  exact lT_lineBeginning hG p hp
set_option maxRecDepth 100000 in
set_option maxHeartbeats 4000000 in
theorem lR_lineStart {E : mm_E} {G : mm_G} {J : mm_J} (hG : mm_GI G) {p0 : Nat} : ∀ p : Nat, p ≤ 100 → mm_Go E qR_lineStart 2 [some (.ref 69), some (.int (nI p0)), some (.int (nI p))] [] 86 J G 0 0 (mm_Fm E qR_lineStart (mm_is (some (.int (nI (ed_lb (J 70) p)))) 86 J G))
  | 0, hp => by
    refine mm_iload_n rfl rfl ?_
    refine mm_if_leN (tgt := 25) rfl (by decide) (by omega) (fun h3 => ?_) (fun h3 => ?_)
    · refine mm_iload_n rfl rfl ?_
      refine mm_ireturn rfl rfl rfl (by decide) (by decide) ?_
      exact ⟨rfl, rfl, rfl, rfl⟩
    · exact absurd h3 (by omega)
  | p + 1, hp => by
    refine mm_iload_n rfl rfl ?_
    refine mm_if_leN (tgt := 25) rfl (by decide) (by omega) (fun h3 => ?_) (fun h3 => ?_)
    · exact absurd h3 (by omega)
    · refine mm_aload_n rfl rfl ?_
      refine mm_getR rfl rfl rfl (by decide) rfl (mm_gi hG 69 0 70 (by decide)) ?_
      refine mm_iload_n rfl rfl ?_
      refine mm_iconst (v := nI 1) rfl (by decide) ?_
      refine mm_isubN rfl (by omega) ?_
      refine mm_rdN rfl (by decide) rfl (by decide) (by omega) (by decide) rfl rfl ?_
      refine mm_bipush (v := nI 10) rfl (by decide) ?_
      refine mm_icmp_eq (tgt := 25) rfl (by decide) (fun h16 => ?_) (fun h16 => ?_)
      · refine mm_iload_n rfl rfl ?_
        refine mm_ireturn rfl rfl rfl (by decide) (by decide) ?_
        exact ⟨by rw [show ed_lb (J 70) (p + 1) = p + 1 from ed_dn_n (ed_nl_n h16)], rfl, rfl, rfl⟩
      · refine mm_iincN rfl rfl (mm_dec1 (by omega)) (by decide) ?_
        refine mm_goto (tgt := 2) rfl (by decide) ?_
        rw [show ed_lb (J 70) (p + 1) = ed_lb (J 70) p from ed_dn_y (ed_nl_y h16)]
        exact lR_lineStart hG p (by omega)
set_option maxRecDepth 100000 in
set_option maxHeartbeats 4000000 in
theorem sR_lineStart {E : mm_E} {G : mm_G} {J : mm_J} (hG : mm_GI G) {p : Nat} (hp : p ≤ 100) : mm_Ret E qR_lineStart [.ref 69, .int (nI p)] 86 J G (some (.int (nI (ed_lb (J 70) p)))) 86 J G := by
  refine mm_Met.of qR_lineStart_ok (by decide) (mm_cats rfl) (Nat.le_of_ble_eq_true rfl) ?_
  refine mm_iload_n rfl rfl ?_
  refine mm_istore_n rfl (by decide) ?_
  exact lR_lineStart hG p hp
set_option maxRecDepth 100000 in
set_option maxHeartbeats 4000000 in
theorem lT_lineEnd {E : mm_E} {G : mm_G} {J : mm_J} (hG : mm_GI G) {n : Nat} (hn : J 2 1 = nI n) (hn2 : n ≤ 100) {p0 : Nat} : ∀ k p : Nat, n - p = k → p ≤ n → mm_Go E qT_lineEnd 2 [some (.ref 1), some (.int (nI p0)), some (.int (nI p))] [] 86 J G 0 0 (mm_Fm E qT_lineEnd (mm_is (some (.int (nI (ed_up (ed_nl (J 3)) k p)))) 86 J G))
  | 0, p, hk, hp => by
    refine mm_iload_n rfl rfl ?_
    refine mm_aload_n rfl rfl ?_
    refine mm_getR rfl rfl rfl (by decide) rfl (mm_gi hG 1 0 2 (by decide)) ?_
    refine mm_getI (x := nI n) rfl rfl rfl (by decide) rfl hn ?_
    refine mm_icmp_geN (tgt := 33) rfl (by decide) (by omega) (by omega) (fun h10 => ?_) (fun h10 => ?_)
    · refine mm_iload_n rfl rfl ?_
      refine mm_ireturn rfl rfl rfl (by decide) (by decide) ?_
      exact ⟨rfl, rfl, rfl, rfl⟩
    · exact absurd h10 (by omega)
  | k + 1, p, hk, hp => by
    refine mm_iload_n rfl rfl ?_
    refine mm_aload_n rfl rfl ?_
    refine mm_getR rfl rfl rfl (by decide) rfl (mm_gi hG 1 0 2 (by decide)) ?_
    refine mm_getI (x := nI n) rfl rfl rfl (by decide) rfl hn ?_
    refine mm_icmp_geN (tgt := 33) rfl (by decide) (by omega) (by omega) (fun h10 => ?_) (fun h10 => ?_)
    · exact absurd h10 (by omega)
    · refine mm_aload_n rfl rfl ?_
      refine mm_getR rfl rfl rfl (by decide) rfl (mm_gi hG 1 0 2 (by decide)) ?_
      refine mm_getR rfl rfl rfl (by decide) rfl (mm_gi hG 2 0 3 (by decide)) ?_
      refine mm_iload_n rfl rfl ?_
      refine mm_rdN rfl (by decide) rfl (by decide) (by omega) (by decide) rfl rfl ?_
      refine mm_bipush (v := nI 10) rfl (by decide) ?_
      refine mm_icmp_eq (tgt := 33) rfl (by decide) (fun h24 => ?_) (fun h24 => ?_)
      · refine mm_iload_n rfl rfl ?_
        refine mm_ireturn rfl rfl rfl (by decide) (by decide) ?_
        exact ⟨by rw [ed_up_n (ed_nl_n h24)], rfl, rfl, rfl⟩
      · refine mm_iincN rfl rfl (mm_inc1 _) (by decide) ?_
        refine mm_goto (tgt := 2) rfl (by decide) ?_
        rw [ed_up_y (ed_nl_y h24)]
        exact lT_lineEnd hG hn hn2 k (p + 1) (by omega) (by omega)
set_option maxRecDepth 100000 in
set_option maxHeartbeats 4000000 in
theorem sT_lineEnd {E : mm_E} {G : mm_G} {J : mm_J} (hG : mm_GI G) {n : Nat} (hn : J 2 1 = nI n) (hn2 : n ≤ 100) {p : Nat} (hp : p ≤ n) : mm_Ret E qT_lineEnd [.ref 1, .int (nI p)] 86 J G (some (.int (nI (ed_le (J 3) n p)))) 86 J G := by
  refine mm_Met.of qT_lineEnd_ok (by decide) (mm_cats rfl) (Nat.le_of_ble_eq_true rfl) ?_
  refine mm_iload_n rfl rfl ?_
  refine mm_istore_n rfl (by decide) ?_
  exact lT_lineEnd hG hn hn2 (n - p) p rfl hp
set_option maxRecDepth 100000 in
set_option maxHeartbeats 4000000 in
theorem lR_lineEnd {E : mm_E} {G : mm_G} {J : mm_J} (hG : mm_GI G) {n : Nat} (hn : J 69 3 = nI n) (hn2 : n ≤ 100) {p0 : Nat} : ∀ k p : Nat, n - p = k → p ≤ n → mm_Go E qR_lineEnd 2 [some (.ref 69), some (.int (nI p0)), some (.int (nI p))] [] 86 J G 0 0 (mm_Fm E qR_lineEnd (mm_is (some (.int (nI (ed_up (ed_nl (J 70)) k p)))) 86 J G))
  | 0, p, hk, hp => by
    refine mm_iload_n rfl rfl ?_
    refine mm_aload_n rfl rfl ?_
    refine mm_getI (x := nI n) rfl rfl rfl (by decide) rfl hn ?_
    refine mm_icmp_geN (tgt := 27) rfl (by decide) (by omega) (by omega) (fun h7 => ?_) (fun h7 => ?_)
    · refine mm_iload_n rfl rfl ?_
      refine mm_ireturn rfl rfl rfl (by decide) (by decide) ?_
      exact ⟨rfl, rfl, rfl, rfl⟩
    · exact absurd h7 (by omega)
  | k + 1, p, hk, hp => by
    refine mm_iload_n rfl rfl ?_
    refine mm_aload_n rfl rfl ?_
    refine mm_getI (x := nI n) rfl rfl rfl (by decide) rfl hn ?_
    refine mm_icmp_geN (tgt := 27) rfl (by decide) (by omega) (by omega) (fun h7 => ?_) (fun h7 => ?_)
    · exact absurd h7 (by omega)
    · refine mm_aload_n rfl rfl ?_
      refine mm_getR rfl rfl rfl (by decide) rfl (mm_gi hG 69 0 70 (by decide)) ?_
      refine mm_iload_n rfl rfl ?_
      refine mm_rdN rfl (by decide) rfl (by decide) (by omega) (by decide) rfl rfl ?_
      refine mm_bipush (v := nI 10) rfl (by decide) ?_
      refine mm_icmp_eq (tgt := 27) rfl (by decide) (fun h18 => ?_) (fun h18 => ?_)
      · refine mm_iload_n rfl rfl ?_
        refine mm_ireturn rfl rfl rfl (by decide) (by decide) ?_
        exact ⟨by rw [ed_up_n (ed_nl_n h18)], rfl, rfl, rfl⟩
      · refine mm_iincN rfl rfl (mm_inc1 _) (by decide) ?_
        refine mm_goto (tgt := 2) rfl (by decide) ?_
        rw [ed_up_y (ed_nl_y h18)]
        exact lR_lineEnd hG hn hn2 k (p + 1) (by omega) (by omega)
set_option maxRecDepth 100000 in
set_option maxHeartbeats 4000000 in
theorem sR_lineEnd {E : mm_E} {G : mm_G} {J : mm_J} (hG : mm_GI G) {n : Nat} (hn : J 69 3 = nI n) (hn2 : n ≤ 100) {p : Nat} (hp : p ≤ n) : mm_Ret E qR_lineEnd [.ref 69, .int (nI p)] 86 J G (some (.int (nI (ed_le (J 70) n p)))) 86 J G := by
  refine mm_Met.of qR_lineEnd_ok (by decide) (mm_cats rfl) (Nat.le_of_ble_eq_true rfl) ?_
  refine mm_iload_n rfl rfl ?_
  refine mm_istore_n rfl (by decide) ?_
  exact lR_lineEnd hG hn hn2 (n - p) p rfl hp
