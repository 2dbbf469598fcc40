def ed_ky (k : Int32) : Bool := decide (0 ≤ k ∧ k ≤ nI 15)
def ed_kn (k : Int32) : Bool := decide (k = -1) || ed_ky k
set_option maxRecDepth 100000 in
set_option maxHeartbeats 4000000 in
theorem sE_finish {E : mm_E} {G : mm_G} {J : mm_J} {c : Int32} : mm_Ret E qE_finish [.ref 0, .int c] 86 J G none 86 (mm_set (mm_set J 0 8 c) 0 7 (nI 1)) G := by
  refine mm_Met.of qE_finish_ok (by decide) (mm_cats rfl) (Nat.le_of_ble_eq_true rfl) ?_
  refine mm_aload_n rfl rfl ?_
  refine mm_iload_n rfl rfl ?_
  refine mm_putI rfl rfl rfl (by decide) rfl (Or.inl rfl) rfl rfl ?_
  refine mm_aload_n rfl rfl ?_
  refine mm_iconst (v := nI 1) rfl (by decide) ?_
  refine mm_putI rfl rfl rfl (by decide) rfl (Or.inl rfl) rfl rfl ?_
  refine mm_return rfl rfl (by decide) (by decide) ?_
  exact ⟨rfl, rfl, rfl, rfl⟩
set_option maxRecDepth 100000 in
set_option maxHeartbeats 4000000 in
theorem sE_moveTo {E : mm_E} {G : mm_G} {J : mm_J} (hG : mm_GI G) {c : Int32} : mm_Ret E qE_moveTo [.ref 0, .int c] 86 J G (some (.int (nI 0))) 86 (mm_set J 1 3 c) G := by
  refine mm_Met.of qE_moveTo_ok (by decide) (mm_cats rfl) (Nat.le_of_ble_eq_true rfl) ?_
  refine mm_aload_n rfl rfl ?_
  refine mm_getR rfl rfl rfl (by decide) rfl (mm_gi hG 0 0 1 (by decide)) ?_
  refine mm_iload_n rfl rfl ?_
  refine mm_putI rfl rfl rfl (by decide) rfl (Or.inl rfl) rfl rfl ?_
  refine mm_iconst (v := nI 0) rfl (by decide) ?_
  refine mm_ireturn rfl rfl rfl (by decide) (by decide) ?_
  exact ⟨rfl, rfl, rfl, rfl⟩
set_option maxRecDepth 100000 in
set_option maxHeartbeats 4000000 in
theorem sE_setMark {E : mm_E} {G : mm_G} {J : mm_J} (hG : mm_GI G) {c : Int32} : mm_Ret E qE_setMark [.ref 0, .int c] 86 J G (some (.int (nI 0))) 86 (mm_set J 4 4 c) G := by
  refine mm_Met.of qE_setMark_ok (by decide) (mm_cats rfl) (Nat.le_of_ble_eq_true rfl) ?_
  refine mm_aload_n rfl rfl ?_
  refine mm_getR rfl rfl rfl (by decide) rfl (mm_gi hG 0 0 1 (by decide)) ?_
  refine mm_getR rfl rfl rfl (by decide) rfl (mm_gi hG 1 1 4 (by decide)) ?_
  refine mm_iconst (v := nI 4) rfl (by decide) ?_
  refine mm_iload_n rfl rfl ?_
  refine mm_wrN rfl (by decide) rfl (by decide) (by decide) (by decide) rfl ?_
  refine mm_iconst (v := nI 0) rfl (by decide) ?_
  refine mm_ireturn rfl rfl rfl (by decide) (by decide) ?_
  exact ⟨rfl, rfl, rfl, rfl⟩
set_option maxRecDepth 100000 in
set_option maxHeartbeats 4000000 in
theorem sE_isKey {E : mm_E} {G : mm_G} {J : mm_J} {k : Int32} : mm_Ret E qE_isKey [.int k] 86 J G (some (.int (nI (ed_b (ed_ky k))))) 86 J G := by
  refine mm_Met.of qE_isKey_ok (by decide) (mm_cats rfl) (Nat.le_of_ble_eq_true rfl) ?_
  refine mm_iload_n rfl rfl ?_
  refine mm_if_lt (tgt := 14) rfl (by decide) (fun h1 => ?_) (fun h1 => ?_)
  · refine mm_iconst (v := nI 0) rfl (by decide) ?_
    refine mm_ireturn rfl rfl rfl (by decide) (by decide) ?_
    exact ⟨by rw [show ed_ky k = false from by simp only [ed_ky, decide_eq_false_iff_not]; exact fun q => absurd q.1 (Int32.not_le.mpr h1)]; rfl, rfl, rfl, rfl⟩
  · refine mm_iload_n rfl rfl ?_
    refine mm_bipush (v := nI 15) rfl (by decide) ?_
    refine mm_icmp_gt (tgt := 14) rfl (by decide) (fun h7 => ?_) (fun h7 => ?_)
    · refine mm_iconst (v := nI 0) rfl (by decide) ?_
      refine mm_ireturn rfl rfl rfl (by decide) (by decide) ?_
      exact ⟨by rw [show ed_ky k = false from by simp only [ed_ky, decide_eq_false_iff_not]; exact fun q => absurd q.2 (Int32.not_le.mpr h7)]; rfl, rfl, rfl, rfl⟩
    · refine mm_iconst (v := nI 1) rfl (by decide) ?_
      refine mm_goto (tgt := 15) rfl (by decide) ?_
      refine mm_ireturn rfl rfl rfl (by decide) (by decide) ?_
      exact ⟨by rw [show ed_ky k = true from by simp only [ed_ky, decide_eq_true_eq]; exact ⟨Int32.not_lt.mp h1, Int32.not_lt.mp h7⟩]; rfl, rfl, rfl, rfl⟩
set_option maxRecDepth 100000 in
set_option maxHeartbeats 4000000 in
theorem sE_isKeyOrNone {E : mm_E} {G : mm_G} {J : mm_J} {k : Int32} : mm_Ret E qE_isKeyOrNone [.int k] 86 J G (some (.int (nI (ed_b (ed_kn k))))) 86 J G := by
  refine mm_Met.of qE_isKeyOrNone_ok (by decide) (mm_cats rfl) (Nat.le_of_ble_eq_true rfl) ?_
  refine mm_iload_n rfl rfl ?_
  refine mm_iconst (v := -1) rfl (by decide) ?_
  refine mm_icmp_eq (tgt := 12) rfl (by decide) (fun h2 => ?_) (fun h2 => ?_)
  · refine mm_iconst (v := nI 1) rfl (by decide) ?_
    refine mm_goto (tgt := 17) rfl (by decide) ?_
    refine mm_ireturn rfl rfl rfl (by decide) (by decide) ?_
    exact ⟨by rw [show ed_kn k = true from by unfold ed_kn; simp [h2]]; rfl, rfl, rfl, rfl⟩
  · refine mm_iload_n rfl rfl ?_
    refine mm_isS1 (M2 := qE_isKey) wd_420 qE_isKey_k (by decide) sE_isKey (Nat.le_of_ble_eq_true rfl) (by decide) (by decide) rfl (by decide) ?_
    refine mm_if_eqN (tgt := 16) rfl (by decide) (ed_b31 _) (fun h9 => ?_) (fun h9 => ?_)
    · refine mm_iconst (v := nI 0) rfl (by decide) ?_
      refine mm_ireturn rfl rfl rfl (by decide) (by decide) ?_
      exact ⟨by rw [show ed_kn k = false from by unfold ed_kn; rw [ed_beq h9]; simp [h2]]; rfl, rfl, rfl, rfl⟩
    · refine mm_iconst (v := nI 1) rfl (by decide) ?_
      refine mm_goto (tgt := 17) rfl (by decide) ?_
      refine mm_ireturn rfl rfl rfl (by decide) (by decide) ?_
      exact ⟨by rw [show ed_kn k = true from by unfold ed_kn; rw [ed_bne h9]; simp]; rfl, rfl, rfl, rfl⟩
set_option maxRecDepth 100000 in
set_option maxHeartbeats 4000000 in
theorem sE_argument0 {E : mm_E} {G : mm_G} {J : mm_J} {x : Int32} (h : x < nI 1 ∨ nI 9 < x) : mm_Ret E qE_argument [.ref 0, .int x] 86 J G (some (.int (-1))) 86 J G := by
  refine mm_Met.of qE_argument_ok (by decide) (mm_cats rfl) (Nat.le_of_ble_eq_true rfl) ?_
  refine mm_iload_n rfl rfl ?_
  refine mm_iconst (v := nI 1) rfl (by decide) ?_
  refine mm_icmp_lt (tgt := 11) rfl (by decide) (fun h2 => ?_) (fun h2 => ?_)
  · refine mm_iconst (v := -1) rfl (by decide) ?_
    refine mm_ireturn rfl rfl rfl (by decide) (by decide) ?_
    exact ⟨rfl, rfl, rfl, rfl⟩
  · refine mm_iload_n rfl rfl ?_
    refine mm_bipush (v := nI 9) rfl (by decide) ?_
    refine mm_icmp_le (tgt := 13) rfl (by decide) (fun h8 => ?_) (fun h8 => ?_)
    · exact h.elim (fun q => absurd q h2) (fun q => absurd h8 (Int32.not_le.mpr q))
    · refine mm_iconst (v := -1) rfl (by decide) ?_
      refine mm_ireturn rfl rfl rfl (by decide) (by decide) ?_
      exact ⟨rfl, rfl, rfl, rfl⟩
set_option maxRecDepth 100000 in
set_option maxHeartbeats 4000000 in
theorem sE_argument1 {E : mm_E} {G : mm_G} {J : mm_J} {x : Nat} (h1 : 1 ≤ x) (h9 : x ≤ 9) : mm_Ret E qE_argument [.ref 0, .int (nI x)] 86 J G (some (.int (nI 0))) 86 (mm_set J 0 7 (nI x)) G := by
  refine mm_Met.of qE_argument_ok (by decide) (mm_cats rfl) (Nat.le_of_ble_eq_true rfl) ?_
  refine mm_iload_n rfl rfl ?_
  refine mm_iconst (v := nI 1) rfl (by decide) ?_
  refine mm_icmp_ltN (tgt := 11) rfl (by decide) (by omega) (by omega) (fun h2 => ?_) (fun h2 => ?_)
  · exact absurd h2 (by omega)
  · refine mm_iload_n rfl rfl ?_
    refine mm_bipush (v := nI 9) rfl (by decide) ?_
    refine mm_icmp_leN (tgt := 13) rfl (by decide) (by omega) (by omega) (fun h8 => ?_) (fun h8 => ?_)
    · refine mm_aload_n rfl rfl ?_
      refine mm_iload_n rfl rfl ?_
      refine mm_putI rfl rfl rfl (by decide) rfl (Or.inl rfl) rfl rfl ?_
      refine mm_iconst (v := nI 0) rfl (by decide) ?_
      refine mm_ireturn rfl rfl rfl (by decide) (by decide) ?_
      exact ⟨rfl, rfl, rfl, rfl⟩
    · exact absurd h8 (by omega)
set_option maxRecDepth 100000 in
set_option maxHeartbeats 4000000 in
theorem sE_macro0 {E : mm_E} {G : mm_G} {J : mm_J} (hG : mm_GI G) {rc : Nat} (hr : J 63 3 = nI rc) (hr2 : rc < 2) : mm_Ret E qE_macro [.ref 0, .int (nI rc)] 86 J G (some (.int (-1))) 86 J G := by
  refine mm_Met.of qE_macro_ok (by decide) (mm_cats rfl) (Nat.le_of_ble_eq_true rfl) ?_
  refine mm_iload_n rfl rfl ?_
  refine mm_aload_n rfl rfl ?_
  refine mm_getR rfl rfl rfl (by decide) rfl (mm_gi hG 0 4 63 (by decide)) ?_
  refine mm_getI (x := nI rc) rfl rfl rfl (by decide) rfl hr ?_
  refine mm_icmp_neN (tgt := 13) rfl (by decide) (by omega) (by omega) (fun h8 => ?_) (fun h8 => ?_)
  · exact absurd rfl h8
  · refine mm_iconst (v := -1) rfl (by decide) ?_
    refine mm_ireturn rfl rfl rfl (by decide) (by decide) ?_
    exact ⟨rfl, rfl, rfl, rfl⟩
set_option maxRecDepth 100000 in
set_option maxHeartbeats 4000000 in
theorem sE_macro1 {E : mm_E} {G : mm_G} {J : mm_J} (hG : mm_GI G) (hr : J 63 3 = nI 0) : mm_Ret E qE_macro [.ref 0, .int (nI 1)] 86 J G (some (.int (nI 0))) 86 (mm_set (mm_set J 63 3 (nI 1)) 63 2 (nI 0)) G := by
  refine mm_Met.of qE_macro_ok (by decide) (mm_cats rfl) (Nat.le_of_ble_eq_true rfl) ?_
  refine mm_iload_n rfl rfl ?_
  refine mm_aload_n rfl rfl ?_
  refine mm_getR rfl rfl rfl (by decide) rfl (mm_gi hG 0 4 63 (by decide)) ?_
  refine mm_getI (x := nI 0) rfl rfl rfl (by decide) rfl hr ?_
  refine mm_icmp_neN (tgt := 13) rfl (by decide) (by decide) (by decide) (fun h8 => ?_) (fun h8 => ?_)
  · refine mm_aload_n rfl rfl ?_
    refine mm_getR rfl rfl rfl (by decide) rfl (mm_gi hG 0 4 63 (by decide)) ?_
    refine mm_iload_n rfl rfl ?_
    refine mm_putI rfl rfl rfl (by decide) rfl (Or.inl rfl) rfl rfl ?_
    refine mm_iload_n rfl rfl ?_
    refine mm_if_eqN (tgt := 35) rfl (by decide) (by decide) (fun h22 => ?_) (fun h22 => ?_)
    · exact absurd h22 (by decide)
    · refine mm_aload_n rfl rfl ?_
      refine mm_getR rfl rfl rfl (by decide) rfl (mm_gi hG 0 4 63 (by decide)) ?_
      refine mm_iconst (v := nI 0) rfl (by decide) ?_
      refine mm_putI rfl rfl rfl (by decide) rfl (Or.inl rfl) rfl rfl ?_
      refine mm_iconst (v := nI 0) rfl (by decide) ?_
      refine mm_ireturn rfl rfl rfl (by decide) (by decide) ?_
      exact ⟨rfl, rfl, rfl, rfl⟩
  · exact absurd h8 (by decide)
set_option maxRecDepth 100000 in
set_option maxHeartbeats 4000000 in
theorem sE_macro2 {E : mm_E} {G : mm_G} {J : mm_J} (hG : mm_GI G) (hr : J 63 3 = nI 1) : mm_Ret E qE_macro [.ref 0, .int (nI 0)] 86 J G (some (.int (J 63 2))) 86 (mm_set J 63 3 (nI 0)) G := by
  refine mm_Met.of qE_macro_ok (by decide) (mm_cats rfl) (Nat.le_of_ble_eq_true rfl) ?_
  refine mm_iload_n rfl rfl ?_
  refine mm_aload_n rfl rfl ?_
  refine mm_getR rfl rfl rfl (by decide) rfl (mm_gi hG 0 4 63 (by decide)) ?_
  refine mm_getI (x := nI 1) rfl rfl rfl (by decide) rfl hr ?_
  refine mm_icmp_neN (tgt := 13) rfl (by decide) (by decide) (by decide) (fun h8 => ?_) (fun h8 => ?_)
  · refine mm_aload_n rfl rfl ?_
    refine mm_getR rfl rfl rfl (by decide) rfl (mm_gi hG 0 4 63 (by decide)) ?_
    refine mm_iload_n rfl rfl ?_
    refine mm_putI rfl rfl rfl (by decide) rfl (Or.inl rfl) rfl rfl ?_
    refine mm_iload_n rfl rfl ?_
    refine mm_if_eqN (tgt := 35) rfl (by decide) (by decide) (fun h22 => ?_) (fun h22 => ?_)
    · refine mm_aload_n rfl rfl ?_
      refine mm_getR rfl rfl rfl (by decide) rfl (mm_gi hG 0 4 63 (by decide)) ?_
      refine mm_getI rfl rfl rfl (by decide) rfl rfl ?_
      refine mm_ireturn rfl rfl rfl (by decide) (by decide) ?_
      exact ⟨rfl, rfl, rfl, rfl⟩
    · exact absurd rfl h22
  · exact absurd h8 (by decide)
set_option maxRecDepth 100000 in
set_option maxHeartbeats 4000000 in
theorem sE_marker0 {E : mm_E} {G : mm_G} {J : mm_J} {x fo : Int32} (h : x < 0 ∨ nI 4 ≤ x) : mm_Ret E qE_marker [.ref 0, .int x, .int fo] 86 J G (some (.int (-1))) 86 J G := by
  refine mm_Met.of qE_marker_ok (by decide) (mm_cats rfl) (Nat.le_of_ble_eq_true rfl) ?_
  refine mm_iload_n rfl rfl ?_
  refine mm_if_lt (tgt := 9) rfl (by decide) (fun h1 => ?_) (fun h1 => ?_)
  · refine mm_iconst (v := -1) rfl (by decide) ?_
    refine mm_ireturn rfl rfl rfl (by decide) (by decide) ?_
    exact ⟨rfl, rfl, rfl, rfl⟩
  · refine mm_iload_n rfl rfl ?_
    refine mm_iconst (v := nI 4) rfl (by decide) ?_
    refine mm_icmp_lt (tgt := 11) rfl (by decide) (fun h6 => ?_) (fun h6 => ?_)
    · exact h.elim (fun q => absurd q h1) (fun q => absurd h6 (Int32.not_lt.mpr q))
    · refine mm_iconst (v := -1) rfl (by decide) ?_
      refine mm_ireturn rfl rfl rfl (by decide) (by decide) ?_
      exact ⟨rfl, rfl, rfl, rfl⟩
set_option maxRecDepth 100000 in
set_option maxHeartbeats 4000000 in
theorem sE_marker1 {E : mm_E} {G : mm_G} {J : mm_J} (hG : mm_GI G) {x : Nat} {fo : Int32} (h : x < 4) (hf : narrow .boolean (.int fo) = .int fo) : mm_Ret E qE_marker [.ref 0, .int (nI x), .int fo] 86 J G (some (.int (nI 0))) 86 (mm_set (mm_set J 4 x (J 1 3)) 5 x fo) G := by
  refine mm_Met.of qE_marker_ok (by decide) (mm_cats rfl) (Nat.le_of_ble_eq_true rfl) ?_
  refine mm_iload_n rfl rfl ?_
  refine mm_if_ltN (tgt := 9) rfl (by decide) (by omega) ?_
  refine mm_iload_n rfl rfl ?_
  refine mm_iconst (v := nI 4) rfl (by decide) ?_
  refine mm_icmp_ltN (tgt := 11) rfl (by decide) (by omega) (by omega) (fun h6 => ?_) (fun h6 => ?_)
  · refine mm_aload_n rfl rfl ?_
    refine mm_getR rfl rfl rfl (by decide) rfl (mm_gi hG 0 0 1 (by decide)) ?_
    refine mm_getR rfl rfl rfl (by decide) rfl (mm_gi hG 1 1 4 (by decide)) ?_
    refine mm_iload_n rfl rfl ?_
    refine mm_aload_n rfl rfl ?_
    refine mm_getR rfl rfl rfl (by decide) rfl (mm_gi hG 0 0 1 (by decide)) ?_
    refine mm_getI rfl rfl rfl (by decide) rfl rfl ?_
    refine mm_wrN rfl (by decide) rfl (by decide) (by omega) (by decide) rfl ?_
    refine mm_aload_n rfl rfl ?_
    refine mm_getR rfl rfl rfl (by decide) rfl (mm_gi hG 0 0 1 (by decide)) ?_
    refine mm_getR rfl rfl rfl (by decide) rfl (mm_gi hG 1 2 5 (by decide)) ?_
    refine mm_iload_n rfl rfl ?_
    refine mm_iload_n rfl rfl ?_
    refine mm_wzN rfl (by decide) rfl (by decide) (by omega) (by decide) hf rfl ?_
    refine mm_iconst (v := nI 0) rfl (by decide) ?_
    refine mm_ireturn rfl rfl rfl (by decide) (by decide) ?_
    exact ⟨rfl, rfl, rfl, rfl⟩
  · exact absurd h6 (by omega)
set_option maxRecDepth 100000 in
set_option maxHeartbeats 4000000 in
theorem sE_frame0 {E : mm_E} {G : mm_G} {J : mm_J} (hG : mm_GI G) {c r : Int32} (h : ¬ (nI 4 ≤ c ∧ c ≤ nI 20 ∧ nI 2 ≤ r ∧ r ≤ nI 6)) : mm_Ret E qE_frame [.ref 0, .int c, .int r] 86 J G (some (.int (-1))) 86 J G := by
  refine mm_Met.of qE_frame_ok (by decide) (mm_cats rfl) (Nat.le_of_ble_eq_true rfl) ?_
  refine mm_aload_n rfl rfl ?_
  refine mm_getR rfl rfl rfl (by decide) rfl (mm_gi hG 0 5 66 (by decide)) ?_
  refine mm_iload_n rfl rfl ?_
  refine mm_iload_n rfl rfl ?_
  refine mm_isV2 (M2 := qN_resize) wd_453 qN_resize_k (by decide) (sN_resize0 h) rfl (by decide) (Nat.le_of_ble_eq_true rfl) (by decide) (by decide) rfl (by decide) ?_
  refine mm_ireturn rfl rfl rfl (by decide) (by decide) ?_
  exact ⟨rfl, rfl, rfl, rfl⟩
set_option maxRecDepth 100000 in
set_option maxHeartbeats 4000000 in
theorem sE_frame1 {E : mm_E} {G : mm_G} {J : mm_J} (hG : mm_GI G) {c r : Nat} (h1 : 4 ≤ c) (h2 : c ≤ 20) (h3 : 2 ≤ r) (h4 : r ≤ 6) : mm_Ret E qE_frame [.ref 0, .int (nI c), .int (nI r)] 86 J G (some (.int (nI 0))) 86 (mm_set (mm_set (mm_set J 66 0 (nI c)) 66 1 (nI r)) 66 2 (nI 0)) G := by
  refine mm_Met.of qE_frame_ok (by decide) (mm_cats rfl) (Nat.le_of_ble_eq_true rfl) ?_
  refine mm_aload_n rfl rfl ?_
  refine mm_getR rfl rfl rfl (by decide) rfl (mm_gi hG 0 5 66 (by decide)) ?_
  refine mm_iload_n rfl rfl ?_
  refine mm_iload_n rfl rfl ?_
  refine mm_isV2 (M2 := qN_resize) wd_453 qN_resize_k (by decide) (sN_resize1 h1 h2 h3 h4) rfl (by decide) (Nat.le_of_ble_eq_true rfl) (by decide) (by decide) rfl (by decide) ?_
  refine mm_ireturn rfl rfl rfl (by decide) (by decide) ?_
  exact ⟨rfl, rfl, rfl, rfl⟩
set_option maxRecDepth 100000 in
set_option maxHeartbeats 4000000 in
theorem sE_character0 {E : mm_E} {G : mm_G} {J : mm_J} (hG : mm_GI G) {n : Nat} (hn : J 2 1 = nI n) (hn2 : n ≤ 100) {x : Int32} (h : x < 0 ∨ nI n ≤ x) : mm_Ret E qE_character [.ref 0, .int x] 86 J G (some (.int (-1))) 86 J G := by
  refine mm_Met.of qE_character_ok (by decide) (mm_cats rfl) (Nat.le_of_ble_eq_true rfl) ?_
  refine mm_iload_n rfl rfl ?_
  refine mm_if_lt (tgt := 18) rfl (by decide) (fun h1 => ?_) (fun h1 => ?_)
  · refine mm_iconst (v := -1) rfl (by decide) ?_
    refine mm_ireturn rfl rfl rfl (by decide) (by decide) ?_
    exact ⟨rfl, rfl, rfl, rfl⟩
  · refine mm_iload_n rfl rfl ?_
    refine mm_aload_n rfl rfl ?_
    refine mm_getR rfl rfl rfl (by decide) rfl (mm_gi hG 0 0 1 (by decide)) ?_
    refine mm_getR rfl rfl rfl (by decide) rfl (mm_gi hG 1 0 2 (by decide)) ?_
    refine mm_getI (x := nI n) rfl rfl rfl (by decide) rfl hn ?_
    refine mm_icmp_lt (tgt := 20) rfl (by decide) (fun h15 => ?_) (fun h15 => ?_)
    · exact h.elim (fun q => absurd q h1) (fun q => absurd h15 (Int32.not_lt.mpr q))
    · refine mm_iconst (v := -1) rfl (by decide) ?_
      refine mm_ireturn rfl rfl rfl (by decide) (by decide) ?_
      exact ⟨rfl, rfl, rfl, rfl⟩
set_option maxRecDepth 100000 in
set_option maxHeartbeats 4000000 in
theorem sE_character1 {E : mm_E} {G : mm_G} {J : mm_J} (hG : mm_GI G) {n : Nat} (hn : J 2 1 = nI n) (hn2 : n ≤ 100) {x : Nat} (h : x < n) : mm_Ret E qE_character [.ref 0, .int (nI x)] 86 J G (some (.int (J 3 x))) 86 J G := by
  refine mm_Met.of qE_character_ok (by decide) (mm_cats rfl) (Nat.le_of_ble_eq_true rfl) ?_
  refine mm_iload_n rfl rfl ?_
  refine mm_if_ltN (tgt := 18) rfl (by decide) (by omega) ?_
  refine mm_iload_n rfl rfl ?_
  refine mm_aload_n rfl rfl ?_
  refine mm_getR rfl rfl rfl (by decide) rfl (mm_gi hG 0 0 1 (by decide)) ?_
  refine mm_getR rfl rfl rfl (by decide) rfl (mm_gi hG 1 0 2 (by decide)) ?_
  refine mm_getI (x := nI n) rfl rfl rfl (by decide) rfl hn ?_
  refine mm_icmp_ltN (tgt := 20) rfl (by decide) (by omega) (by omega) (fun h15 => ?_) (fun h15 => ?_)
  · refine mm_aload_n rfl rfl ?_
    refine mm_getR rfl rfl rfl (by decide) rfl (mm_gi hG 0 0 1 (by decide)) ?_
    refine mm_getR rfl rfl rfl (by decide) rfl (mm_gi hG 1 0 2 (by decide)) ?_
    refine mm_getR rfl rfl rfl (by decide) rfl (mm_gi hG 2 0 3 (by decide)) ?_
    refine mm_iload_n rfl rfl ?_
    refine mm_rdN rfl (by decide) rfl (by decide) (by omega) (by decide) rfl rfl ?_
    refine mm_ireturn rfl rfl rfl (by decide) (by decide) ?_
    exact ⟨rfl, rfl, rfl, rfl⟩
  · exact absurd h15 (by omega)
set_option maxRecDepth 100000 in
set_option maxHeartbeats 4000000 in
theorem sE_markerAt0 {E : mm_E} {G : mm_G} {J : mm_J} {x : Int32} (h : x < 0 ∨ nI 4 ≤ x) : mm_Ret E qE_markerAt [.ref 0, .int x] 86 J G (some (.int (-1))) 86 J G := by
  refine mm_Met.of qE_markerAt_ok (by decide) (mm_cats rfl) (Nat.le_of_ble_eq_true rfl) ?_
  refine mm_iload_n rfl rfl ?_
  refine mm_if_lt (tgt := 9) rfl (by decide) (fun h1 => ?_) (fun h1 => ?_)
  · refine mm_iconst (v := -1) rfl (by decide) ?_
    refine mm_ireturn rfl rfl rfl (by decide) (by decide) ?_
    exact ⟨rfl, rfl, rfl, rfl⟩
  · refine mm_iload_n rfl rfl ?_
    refine mm_iconst (v := nI 4) rfl (by decide) ?_
    refine mm_icmp_lt (tgt := 11) rfl (by decide) (fun h6 => ?_) (fun h6 => ?_)
    · exact h.elim (fun q => absurd q h1) (fun q => absurd h6 (Int32.not_lt.mpr q))
    · refine mm_iconst (v := -1) rfl (by decide) ?_
      refine mm_ireturn rfl rfl rfl (by decide) (by decide) ?_
      exact ⟨rfl, rfl, rfl, rfl⟩
set_option maxRecDepth 100000 in
set_option maxHeartbeats 4000000 in
theorem sE_markerAt1 {E : mm_E} {G : mm_G} {J : mm_J} (hG : mm_GI G) {x : Nat} (h : x < 4) : mm_Ret E qE_markerAt [.ref 0, .int (nI x)] 86 J G (some (.int (J 4 x))) 86 J G := by
  refine mm_Met.of qE_markerAt_ok (by decide) (mm_cats rfl) (Nat.le_of_ble_eq_true rfl) ?_
  refine mm_iload_n rfl rfl ?_
  refine mm_if_ltN (tgt := 9) rfl (by decide) (by omega) ?_
  refine mm_iload_n rfl rfl ?_
  refine mm_iconst (v := nI 4) rfl (by decide) ?_
  refine mm_icmp_ltN (tgt := 11) rfl (by decide) (by omega) (by omega) (fun h6 => ?_) (fun h6 => ?_)
  · refine mm_aload_n rfl rfl ?_
    refine mm_getR rfl rfl rfl (by decide) rfl (mm_gi hG 0 0 1 (by decide)) ?_
    refine mm_getR rfl rfl rfl (by decide) rfl (mm_gi hG 1 1 4 (by decide)) ?_
    refine mm_iload_n rfl rfl ?_
    refine mm_rdN rfl (by decide) rfl (by decide) (by omega) (by decide) rfl rfl ?_
    refine mm_ireturn rfl rfl rfl (by decide) (by decide) ?_
    exact ⟨rfl, rfl, rfl, rfl⟩
  · exact absurd h6 (by omega)
set_option maxRecDepth 100000 in
set_option maxHeartbeats 4000000 in
theorem sE_killed0 {E : mm_E} {G : mm_G} {J : mm_J} (hG : mm_GI G) {c : Nat} (hc : J 6 1 = nI c) (hc2 : c ≤ 4) {x k : Int32} (h : x < 0 ∨ nI c ≤ x ∨ k < 0) : mm_Ret E qE_killed [.ref 0, .int x, .int k] 86 J G (some (.int (-1))) 86 J G := by
  refine mm_Met.of qE_killed_ok (by decide) (mm_cats rfl) (Nat.le_of_ble_eq_true rfl) ?_
  refine mm_iload_n rfl rfl ?_
  refine mm_if_lt (tgt := 19) rfl (by decide) (fun h1 => ?_) (fun h1 => ?_)
  · refine mm_iconst (v := -1) rfl (by decide) ?_
    refine mm_ireturn rfl rfl rfl (by decide) (by decide) ?_
    exact ⟨rfl, rfl, rfl, rfl⟩
  · refine mm_iload_n rfl rfl ?_
    refine mm_aload_n rfl rfl ?_
    refine mm_getR rfl rfl rfl (by decide) rfl (mm_gi hG 0 1 6 (by decide)) ?_
    refine mm_getI (x := nI c) rfl rfl rfl (by decide) rfl hc ?_
    refine mm_icmp_ge (tgt := 19) rfl (by decide) (fun h12 => ?_) (fun h12 => ?_)
    · refine mm_iconst (v := -1) rfl (by decide) ?_
      refine mm_ireturn rfl rfl rfl (by decide) (by decide) ?_
      exact ⟨rfl, rfl, rfl, rfl⟩
    · refine mm_iload_n rfl rfl ?_
      refine mm_if_ge (tgt := 21) rfl (by decide) (fun h16 => ?_) (fun h16 => ?_)
      · exact h.elim (fun q => absurd q h1) (fun q => q.elim (fun q => absurd q h12) (fun q => absurd h16 (Int32.not_le.mpr q)))
      · refine mm_iconst (v := -1) rfl (by decide) ?_
        refine mm_ireturn rfl rfl rfl (by decide) (by decide) ?_
        exact ⟨rfl, rfl, rfl, rfl⟩
set_option maxRecDepth 100000 in
set_option maxHeartbeats 4000000 in
theorem sE_killed1 {E : mm_E} {G : mm_G} {J : mm_J} (hG : mm_GI G) {c : Nat} (hc : J 6 1 = nI c) (hc2 : c ≤ 4) {x k r l : Nat} (h : x < c) (hg : G 7 x = some r) (hr : mm_SH r = .inl 2) (hl : J r 1 = nI l) (hl2 : l ≤ 100) (hk : k < l) : mm_Ret E qE_killed [.ref 0, .int (nI x), .int (nI k)] 86 J G (some (.int (J (r + 1) k))) 86 J G := by
  refine mm_Met.of qE_killed_ok (by decide) (mm_cats rfl) (Nat.le_of_ble_eq_true rfl) ?_
  refine mm_iload_n rfl rfl ?_
  refine mm_if_ltN (tgt := 19) rfl (by decide) (by omega) ?_
  refine mm_iload_n rfl rfl ?_
  refine mm_aload_n rfl rfl ?_
  refine mm_getR rfl rfl rfl (by decide) rfl (mm_gi hG 0 1 6 (by decide)) ?_
  refine mm_getI (x := nI c) rfl rfl rfl (by decide) rfl hc ?_
  refine mm_icmp_geN (tgt := 19) rfl (by decide) (by omega) (by omega) (fun h12 => ?_) (fun h12 => ?_)
  · exact absurd h12 (by omega)
  · refine mm_iload_n rfl rfl ?_
    refine mm_if_geN (tgt := 21) rfl (by decide) (by omega) ?_
    refine mm_aload_n rfl rfl ?_
    refine mm_getR rfl rfl rfl (by decide) rfl (mm_gi hG 0 1 6 (by decide)) ?_
    refine mm_getR rfl rfl rfl (by decide) rfl (mm_gi hG 6 0 7 (by decide)) ?_
    refine mm_iload_n rfl rfl ?_
    refine mm_rrN rfl (by decide) rfl rfl (by decide) (by omega) (by decide) hg rfl ?_
    refine mm_astore_n rfl (by decide) ?_
    refine mm_iload_n rfl rfl ?_
    refine mm_aload_n rfl rfl ?_
    refine mm_getI (x := nI l) rfl rfl hr (mm_l1 hr) rfl hl ?_
    refine mm_icmp_geN (tgt := 48) rfl (by decide) (by omega) (by omega) (fun h36 => ?_) (fun h36 => ?_)
    · exact absurd h36 (by omega)
    · refine mm_aload_n rfl rfl ?_
      refine mm_getR rfl rfl hr (mm_l1 hr) rfl (hG.1 _ hr) ?_
      refine mm_iload_n rfl rfl ?_
      refine mm_rdN (mm_l2 hr) (by decide) rfl (mm_l3 hr) (by omega) (by decide) rfl rfl ?_
      refine mm_goto (tgt := 49) rfl (by decide) ?_
      refine mm_ireturn rfl rfl rfl (by decide) (by decide) ?_
      exact ⟨rfl, rfl, rfl, rfl⟩
set_option maxRecDepth 100000 in
set_option maxHeartbeats 4000000 in
theorem sE_killed2 {E : mm_E} {G : mm_G} {J : mm_J} (hG : mm_GI G) {c : Nat} (hc : J 6 1 = nI c) (hc2 : c ≤ 4) {x k r l : Nat} (h : x < c) (hg : G 7 x = some r) (hr : mm_SH r = .inl 2) (hl : J r 1 = nI l) (hl2 : l ≤ 100) (hk : l ≤ k) (hk2 : k < 2 ^ 31) : mm_Ret E qE_killed [.ref 0, .int (nI x), .int (nI k)] 86 J G (some (.int (nI 0))) 86 J G := by
  refine mm_Met.of qE_killed_ok (by decide) (mm_cats rfl) (Nat.le_of_ble_eq_true rfl) ?_
  refine mm_iload_n rfl rfl ?_
  refine mm_if_ltN (tgt := 19) rfl (by decide) (by omega) ?_
  refine mm_iload_n rfl rfl ?_
  refine mm_aload_n rfl rfl ?_
  refine mm_getR rfl rfl rfl (by decide) rfl (mm_gi hG 0 1 6 (by decide)) ?_
  refine mm_getI (x := nI c) rfl rfl rfl (by decide) rfl hc ?_
  refine mm_icmp_geN (tgt := 19) rfl (by decide) (by omega) (by omega) (fun h12 => ?_) (fun h12 => ?_)
  · exact absurd h12 (by omega)
  · refine mm_iload_n rfl rfl ?_
    refine mm_if_geN (tgt := 21) rfl (by decide) (by omega) ?_
    refine mm_aload_n rfl rfl ?_
    refine mm_getR rfl rfl rfl (by decide) rfl (mm_gi hG 0 1 6 (by decide)) ?_
    refine mm_getR rfl rfl rfl (by decide) rfl (mm_gi hG 6 0 7 (by decide)) ?_
    refine mm_iload_n rfl rfl ?_
    refine mm_rrN rfl (by decide) rfl rfl (by decide) (by omega) (by decide) hg rfl ?_
    refine mm_astore_n rfl (by decide) ?_
    refine mm_iload_n rfl rfl ?_
    refine mm_aload_n rfl rfl ?_
    refine mm_getI (x := nI l) rfl rfl hr (mm_l1 hr) rfl hl ?_
    refine mm_icmp_geN (tgt := 48) rfl (by decide) (by omega) (by omega) (fun h36 => ?_) (fun h36 => ?_)
    · refine mm_iconst (v := nI 0) rfl (by decide) ?_
      refine mm_ireturn rfl rfl rfl (by decide) (by decide) ?_
      exact ⟨rfl, rfl, rfl, rfl⟩
    · exact absurd h36 (by omega)
set_option maxRecDepth 100000 in
set_option maxHeartbeats 4000000 in
theorem sE_cell0 {E : mm_E} {G : mm_G} {J : mm_J} (hG : mm_GI G) {n q c f w : Nat} (hn : J 2 1 = nI n) (hn2 : n ≤ 100) (hq : q ≤ n) (hc : J 66 0 = nI c) (hc2 : c ≤ 20) (hp : J 1 3 = nI q) (hf : J 66 2 = nI f) (hf2 : f ≤ 200) (hw : J 66 1 = nI w) (hw2 : w ≤ 6) {x y : Int32} (h : x < 0 ∨ nI w ≤ x ∨ y < 0 ∨ nI c ≤ y) : mm_Ret E qE_cell [.ref 0, .int x, .int y] 86 J G (some (.int (-1))) 86 J G := by
  refine mm_Met.of qE_cell_ok (by decide) (mm_cats rfl) (Nat.le_of_ble_eq_true rfl) ?_
  refine mm_iload_n rfl rfl ?_
  refine mm_if_lt (tgt := 30) rfl (by decide) (fun h1 => ?_) (fun h1 => ?_)
  · refine mm_iconst (v := -1) rfl (by decide) ?_
    refine mm_ireturn rfl rfl rfl (by decide) (by decide) ?_
    exact ⟨rfl, rfl, rfl, rfl⟩
  · refine mm_iload_n rfl rfl ?_
    refine mm_aload_n rfl rfl ?_
    refine mm_getR rfl rfl rfl (by decide) rfl (mm_gi hG 0 5 66 (by decide)) ?_
    refine mm_getI (x := nI w) rfl rfl rfl (by decide) rfl hw ?_
    refine mm_icmp_ge (tgt := 30) rfl (by decide) (fun h12 => ?_) (fun h12 => ?_)
    · refine mm_iconst (v := -1) rfl (by decide) ?_
      refine mm_ireturn rfl rfl rfl (by decide) (by decide) ?_
      exact ⟨rfl, rfl, rfl, rfl⟩
    · refine mm_iload_n rfl rfl ?_
      refine mm_if_lt (tgt := 30) rfl (by decide) (fun h16 => ?_) (fun h16 => ?_)
      · refine mm_iconst (v := -1) rfl (by decide) ?_
        refine mm_ireturn rfl rfl rfl (by decide) (by decide) ?_
        exact ⟨rfl, rfl, rfl, rfl⟩
      · refine mm_iload_n rfl rfl ?_
        refine mm_aload_n rfl rfl ?_
        refine mm_getR rfl rfl rfl (by decide) rfl (mm_gi hG 0 5 66 (by decide)) ?_
        refine mm_getI (x := nI c) rfl rfl rfl (by decide) rfl hc ?_
        refine mm_icmp_lt (tgt := 32) rfl (by decide) (fun h27 => ?_) (fun h27 => ?_)
        · exact h.elim (fun q => absurd q h1) (fun q => q.elim (fun q => absurd q h12) (fun q => q.elim (fun q => absurd q h16) (fun q => absurd h27 (Int32.not_lt.mpr q))))
        · refine mm_iconst (v := -1) rfl (by decide) ?_
          refine mm_ireturn rfl rfl rfl (by decide) (by decide) ?_
          exact ⟨rfl, rfl, rfl, rfl⟩
set_option maxRecDepth 100000 in
set_option maxHeartbeats 4000000 in
theorem sE_cell1 {E : mm_E} {G : mm_G} {J : mm_J} (hG : mm_GI G) {n q c f w : Nat} (hn : J 2 1 = nI n) (hn2 : n ≤ 100) (hq : q ≤ n) (hc : J 66 0 = nI c) (hc2 : c ≤ 20) (hp : J 1 3 = nI q) (hf : J 66 2 = nI f) (hf2 : f ≤ 200) (hw : J 66 1 = nI w) (hw2 : w ≤ 6) {x y : Nat} (h1 : x < w) (h2 : y < c) : mm_Ret E qE_cell [.ref 0, .int (nI x), .int (nI y)] 86 J G (some (.int (ed_ca (J 3) c ((max (min f (ed_rc (J 3) c q).1) ((ed_rc (J 3) c q).1 + 1 - w)) + x) y n 0))) 86 (mm_set J 66 2 (nI (max (min f (ed_rc (J 3) c q).1) ((ed_rc (J 3) c q).1 + 1 - w)))) G := by
  refine mm_Met.of qE_cell_ok (by decide) (mm_cats rfl) (Nat.le_of_ble_eq_true rfl) ?_
  have hrc := ed_rc_le (J 3) c q
  refine mm_iload_n rfl rfl ?_
  refine mm_if_ltN (tgt := 30) rfl (by decide) (by omega) ?_
  refine mm_iload_n rfl rfl ?_
  refine mm_aload_n rfl rfl ?_
  refine mm_getR rfl rfl rfl (by decide) rfl (mm_gi hG 0 5 66 (by decide)) ?_
  refine mm_getI (x := nI w) rfl rfl rfl (by decide) rfl hw ?_
  refine mm_icmp_geN (tgt := 30) rfl (by decide) (by omega) (by omega) (fun h12 => ?_) (fun h12 => ?_)
  · exact absurd h12 (by omega)
  · refine mm_iload_n rfl rfl ?_
    refine mm_if_ltN (tgt := 30) rfl (by decide) (by omega) ?_
    refine mm_iload_n rfl rfl ?_
    refine mm_aload_n rfl rfl ?_
    refine mm_getR rfl rfl rfl (by decide) rfl (mm_gi hG 0 5 66 (by decide)) ?_
    refine mm_getI (x := nI c) rfl rfl rfl (by decide) rfl hc ?_
    refine mm_icmp_ltN (tgt := 32) rfl (by decide) (by omega) (by omega) (fun h27 => ?_) (fun h27 => ?_)
    · refine mm_aload_n rfl rfl ?_
      refine mm_getR rfl rfl rfl (by decide) rfl (mm_gi hG 0 5 66 (by decide)) ?_
      refine mm_aload_n rfl rfl ?_
      refine mm_getR rfl rfl rfl (by decide) rfl (mm_gi hG 0 0 1 (by decide)) ?_
      refine mm_isV1 (M2 := qN_follow) wd_473 qN_follow_k (by decide) (sN_follow hG hn hn2 hq hc hc2 hp hf hf2 hw hw2) rfl (by decide) (Nat.le_of_ble_eq_true rfl) (by decide) (by decide) rfl (by decide) ?_
      refine mm_aload_n rfl rfl ?_
      refine mm_getR rfl rfl rfl (by decide) rfl (mm_gi hG 0 5 66 (by decide)) ?_
      refine mm_aload_n rfl rfl ?_
      refine mm_getR rfl rfl rfl (by decide) rfl (mm_gi hG 0 0 1 (by decide)) ?_
      refine mm_getR rfl rfl rfl (by decide) rfl (mm_gi hG 1 0 2 (by decide)) ?_
      refine mm_aload_n rfl rfl ?_
      refine mm_getR rfl rfl rfl (by decide) rfl (mm_gi hG 0 5 66 (by decide)) ?_
      refine mm_getI (x := nI (max (min f (ed_rc (J 3) c q).1) ((ed_rc (J 3) c q).1 + 1 - w))) rfl rfl rfl (by decide) rfl (by simp [mm_set]) ?_
      refine mm_iload_n rfl rfl ?_
      refine mm_iaddN rfl ?_
      refine mm_iload_n rfl rfl ?_
      refine mm_isV3 (M2 := qN_codeAt) wd_483 qN_codeAt_k (by decide) (sN_codeAt (n := n) (c := c) hG (by simp [mm_set, hn]) hn2 (by simp [mm_set, hc]) hc2 (by omega) (by omega)) rfl (by decide) (Nat.le_of_ble_eq_true rfl) (by decide) (by decide) rfl (by decide) ?_
      refine mm_ireturn rfl rfl rfl (by decide) (by decide) ?_
      exact ⟨rfl, rfl, rfl, rfl⟩
    · exact absurd h27 (by omega)
set_option maxRecDepth 100000 in
set_option maxHeartbeats 4000000 in
theorem sE_info0 {E : mm_E} {G : mm_G} {J : mm_J} (hG : mm_GI G)  : mm_Ret E qE_info [.ref 0, .int (nI 0)] 86 J G (some (.int (J 2 1))) 86 J G := by
  refine mm_Met.of qE_info_ok (by decide) (mm_cats rfl) (Nat.le_of_ble_eq_true rfl) ?_
  refine mm_iload_n rfl rfl ?_
  refine mm_tableIn (off := 71) (tgt := 72) rfl (by decide) (by decide) rfl (by decide) ?_
  refine mm_aload_n rfl rfl ?_
  refine mm_getR rfl rfl rfl (by decide) rfl (mm_gi hG 0 0 1 (by decide)) ?_
  refine mm_getR rfl rfl rfl (by decide) rfl (mm_gi hG 1 0 2 (by decide)) ?_
  refine mm_getI rfl rfl rfl (by decide) rfl rfl ?_
  refine mm_ireturn rfl rfl rfl (by decide) (by decide) ?_
  exact ⟨rfl, rfl, rfl, rfl⟩
set_option maxRecDepth 100000 in
set_option maxHeartbeats 4000000 in
theorem sE_info1 {E : mm_E} {G : mm_G} {J : mm_J} (hG : mm_GI G)  : mm_Ret E qE_info [.ref 0, .int (nI 1)] 86 J G (some (.int (J 1 3))) 86 J G := by
  refine mm_Met.of qE_info_ok (by decide) (mm_cats rfl) (Nat.le_of_ble_eq_true rfl) ?_
  refine mm_iload_n rfl rfl ?_
  refine mm_tableIn (off := 82) (tgt := 83) rfl (by decide) (by decide) rfl (by decide) ?_
  refine mm_aload_n rfl rfl ?_
  refine mm_getR rfl rfl rfl (by decide) rfl (mm_gi hG 0 0 1 (by decide)) ?_
  refine mm_getI rfl rfl rfl (by decide) rfl rfl ?_
  refine mm_ireturn rfl rfl rfl (by decide) (by decide) ?_
  exact ⟨rfl, rfl, rfl, rfl⟩
set_option maxRecDepth 100000 in
set_option maxHeartbeats 4000000 in
theorem sE_info2 {E : mm_E} {G : mm_G} {J : mm_J} (hG : mm_GI G)  : mm_Ret E qE_info [.ref 0, .int (nI 2)] 86 J G (some (.int (J 4 4))) 86 J G := by
  refine mm_Met.of qE_info_ok (by decide) (mm_cats rfl) (Nat.le_of_ble_eq_true rfl) ?_
  refine mm_iload_n rfl rfl ?_
  refine mm_tableIn (off := 90) (tgt := 91) rfl (by decide) (by decide) rfl (by decide) ?_
  refine mm_aload_n rfl rfl ?_
  refine mm_getR rfl rfl rfl (by decide) rfl (mm_gi hG 0 0 1 (by decide)) ?_
  refine mm_getR rfl rfl rfl (by decide) rfl (mm_gi hG 1 1 4 (by decide)) ?_
  refine mm_iconst (v := nI 4) rfl (by decide) ?_
  refine mm_rdN rfl (by decide) rfl (by decide) (by decide) (by decide) rfl rfl ?_
  refine mm_ireturn rfl rfl rfl (by decide) (by decide) ?_
  exact ⟨rfl, rfl, rfl, rfl⟩
set_option maxRecDepth 100000 in
set_option maxHeartbeats 4000000 in
theorem sE_info3 {E : mm_E} {G : mm_G} {J : mm_J} (hG : mm_GI G)  : mm_Ret E qE_info [.ref 0, .int (nI 3)] 86 J G (some (.int (J 6 1))) 86 J G := by
  refine mm_Met.of qE_info_ok (by decide) (mm_cats rfl) (Nat.le_of_ble_eq_true rfl) ?_
  refine mm_iload_n rfl rfl ?_
  refine mm_tableIn (off := 100) (tgt := 101) rfl (by decide) (by decide) rfl (by decide) ?_
  refine mm_aload_n rfl rfl ?_
  refine mm_getR rfl rfl rfl (by decide) rfl (mm_gi hG 0 1 6 (by decide)) ?_
  refine mm_getI rfl rfl rfl (by decide) rfl rfl ?_
  refine mm_ireturn rfl rfl rfl (by decide) (by decide) ?_
  exact ⟨rfl, rfl, rfl, rfl⟩
set_option maxRecDepth 100000 in
set_option maxHeartbeats 4000000 in
theorem sE_info4 {E : mm_E} {G : mm_G} {J : mm_J} (hG : mm_GI G)  : mm_Ret E qE_info [.ref 0, .int (nI 4)] 86 J G (some (.int (J 16 3))) 86 J G := by
  refine mm_Met.of qE_info_ok (by decide) (mm_cats rfl) (Nat.le_of_ble_eq_true rfl) ?_
  refine mm_iload_n rfl rfl ?_
  refine mm_tableIn (off := 108) (tgt := 109) rfl (by decide) (by decide) rfl (by decide) ?_
  refine mm_aload_n rfl rfl ?_
  refine mm_getR rfl rfl rfl (by decide) rfl (mm_gi hG 0 2 16 (by decide)) ?_
  refine mm_getI rfl rfl rfl (by decide) rfl rfl ?_
  refine mm_ireturn rfl rfl rfl (by decide) (by decide) ?_
  exact ⟨rfl, rfl, rfl, rfl⟩
set_option maxRecDepth 100000 in
set_option maxHeartbeats 4000000 in
theorem sE_info5 {E : mm_E} {G : mm_G} {J : mm_J} (hG : mm_GI G) {r : Nat} (hr : r < 2 ^ 30) (hp : J 60 3 = nI r) : mm_Ret E qE_info [.ref 0, .int (nI 5)] 86 J G (some (.int (nI (if ed_sp r = 4913 then 0 else if ed_sp r = 289 then 1 else 2)))) 86 J G := by
  refine mm_Met.of qE_info_ok (by decide) (mm_cats rfl) (Nat.le_of_ble_eq_true rfl) ?_
  refine mm_iload_n rfl rfl ?_
  refine mm_tableIn (off := 116) (tgt := 117) rfl (by decide) (by decide) rfl (by decide) ?_
  refine mm_aload_n rfl rfl ?_
  refine mm_getR rfl rfl rfl (by decide) rfl (mm_gi hG 0 3 60 (by decide)) ?_
  refine mm_isV0 (M2 := qY_pendingCount) wd_491 qY_pendingCount_k (by decide) (sY_pendingCount hr hp) rfl (by decide) (Nat.le_of_ble_eq_true rfl) (by decide) (by decide) rfl (by decide) ?_
  refine mm_ireturn rfl rfl rfl (by decide) (by decide) ?_
  exact ⟨rfl, rfl, rfl, rfl⟩
set_option maxRecDepth 100000 in
set_option maxHeartbeats 4000000 in
theorem sE_info6 {E : mm_E} {G : mm_G} {J : mm_J} (hG : mm_GI G)  : mm_Ret E qE_info [.ref 0, .int (nI 6)] 86 J G (some (.int (J 63 2))) 86 J G := by
  refine mm_Met.of qE_info_ok (by decide) (mm_cats rfl) (Nat.le_of_ble_eq_true rfl) ?_
  refine mm_iload_n rfl rfl ?_
  refine mm_tableIn (off := 124) (tgt := 125) rfl (by decide) (by decide) rfl (by decide) ?_
  refine mm_aload_n rfl rfl ?_
  refine mm_getR rfl rfl rfl (by decide) rfl (mm_gi hG 0 4 63 (by decide)) ?_
  refine mm_getI rfl rfl rfl (by decide) rfl rfl ?_
  refine mm_ireturn rfl rfl rfl (by decide) (by decide) ?_
  exact ⟨rfl, rfl, rfl, rfl⟩
set_option maxRecDepth 100000 in
set_option maxHeartbeats 4000000 in
theorem sE_info7 {E : mm_E} {G : mm_G} {J : mm_J} (hG : mm_GI G) {rc : Nat} (hr : J 63 3 = nI rc) (hr2 : rc < 2) : mm_Ret E qE_info [.ref 0, .int (nI 7)] 86 J G (some (.int (nI rc))) 86 J G := by
  refine mm_Met.of qE_info_ok (by decide) (mm_cats rfl) (Nat.le_of_ble_eq_true rfl) ?_
  refine mm_iload_n rfl rfl ?_
  refine mm_tableIn (off := 132) (tgt := 133) rfl (by decide) (by decide) rfl (by decide) ?_
  refine mm_aload_n rfl rfl ?_
  refine mm_getR rfl rfl rfl (by decide) rfl (mm_gi hG 0 4 63 (by decide)) ?_
  refine mm_getI (x := nI rc) rfl rfl rfl (by decide) rfl hr ?_
  refine mm_if_eqN (tgt := 147) rfl (by decide) (by omega) (fun h140 => ?_) (fun h140 => ?_)
  · refine mm_iconst (v := nI 0) rfl (by decide) ?_
    refine mm_ireturn rfl rfl rfl (by decide) (by decide) ?_
    exact ⟨by rw [h140], rfl, rfl, rfl⟩
  · refine mm_iconst (v := nI 1) rfl (by decide) ?_
    refine mm_goto (tgt := 148) rfl (by decide) ?_
    refine mm_ireturn rfl rfl rfl (by decide) (by decide) ?_
    exact ⟨by rw [show rc = 1 by omega], rfl, rfl, rfl⟩
set_option maxRecDepth 100000 in
set_option maxHeartbeats 4000000 in
theorem sE_info8 {E : mm_E} {G : mm_G} {J : mm_J} (hG : mm_GI G)  : mm_Ret E qE_info [.ref 0, .int (nI 8)] 86 J G (some (.int (J 60 2))) 86 J G := by
  refine mm_Met.of qE_info_ok (by decide) (mm_cats rfl) (Nat.le_of_ble_eq_true rfl) ?_
  refine mm_iload_n rfl rfl ?_
  refine mm_tableIn (off := 148) (tgt := 149) rfl (by decide) (by decide) rfl (by decide) ?_
  refine mm_aload_n rfl rfl ?_
  refine mm_getR rfl rfl rfl (by decide) rfl (mm_gi hG 0 3 60 (by decide)) ?_
  refine mm_getI rfl rfl rfl (by decide) rfl rfl ?_
  refine mm_ireturn rfl rfl rfl (by decide) (by decide) ?_
  exact ⟨rfl, rfl, rfl, rfl⟩
set_option maxRecDepth 100000 in
set_option maxHeartbeats 4000000 in
theorem sE_info9 {E : mm_E} {G : mm_G} {J : mm_J} (hG : mm_GI G) {n c : Nat} (hn : J 2 1 = nI n) (hn2 : n ≤ 100) (hc : J 66 0 = nI c) (hc2 : c ≤ 20) : mm_Ret E qE_info [.ref 0, .int (nI 9)] 86 J G (some (.int (nI ((ed_rc (J 3) c n).1 + 1)))) 86 J G := by
  refine mm_Met.of qE_info_ok (by decide) (mm_cats rfl) (Nat.le_of_ble_eq_true rfl) ?_
  refine mm_iload_n rfl rfl ?_
  refine mm_tableIn (off := 156) (tgt := 157) rfl (by decide) (by decide) rfl (by decide) ?_
  refine mm_aload_n rfl rfl ?_
  refine mm_getR rfl rfl rfl (by decide) rfl (mm_gi hG 0 5 66 (by decide)) ?_
  refine mm_aload_n rfl rfl ?_
  refine mm_getR rfl rfl rfl (by decide) rfl (mm_gi hG 0 0 1 (by decide)) ?_
  refine mm_getR rfl rfl rfl (by decide) rfl (mm_gi hG 1 0 2 (by decide)) ?_
  refine mm_aload_n rfl rfl ?_
  refine mm_getR rfl rfl rfl (by decide) rfl (mm_gi hG 0 0 1 (by decide)) ?_
  refine mm_getR rfl rfl rfl (by decide) rfl (mm_gi hG 1 0 2 (by decide)) ?_
  refine mm_getI (x := nI n) rfl rfl rfl (by decide) rfl hn ?_
  refine mm_isV2 (M2 := qN_rowOf) wd_495 qN_rowOf_k (by decide) (sN_rowOf hG hn hn2 (Nat.le_refl n) hc hc2) rfl (by decide) (Nat.le_of_ble_eq_true rfl) (by decide) (by decide) rfl (by decide) ?_
  refine mm_iconst (v := nI 1) rfl (by decide) ?_
  refine mm_iaddN rfl ?_
  refine mm_ireturn rfl rfl rfl (by decide) (by decide) ?_
  exact ⟨rfl, rfl, rfl, rfl⟩
set_option maxRecDepth 100000 in
set_option maxHeartbeats 4000000 in
theorem sE_info10 {E : mm_E} {G : mm_G} {J : mm_J} (hG : mm_GI G) {n q c f w : Nat} (hn : J 2 1 = nI n) (hn2 : n ≤ 100) (hq : q ≤ n) (hc : J 66 0 = nI c) (hc2 : c ≤ 20) (hp : J 1 3 = nI q) (hf : J 66 2 = nI f) (hf2 : f ≤ 200) (hw : J 66 1 = nI w) (hw2 : w ≤ 6) : mm_Ret E qE_info [.ref 0, .int (nI 10)] 86 J G (some (.int (nI (max (min f (ed_rc (J 3) c q).1) ((ed_rc (J 3) c q).1 + 1 - w))))) 86 (mm_set J 66 2 (nI (max (min f (ed_rc (J 3) c q).1) ((ed_rc (J 3) c q).1 + 1 - w)))) G := by
  refine mm_Met.of qE_info_ok (by decide) (mm_cats rfl) (Nat.le_of_ble_eq_true rfl) ?_
  refine mm_iload_n rfl rfl ?_
  refine mm_tableIn (off := 183) (tgt := 184) rfl (by decide) (by decide) rfl (by decide) ?_
  refine mm_aload_n rfl rfl ?_
  refine mm_getR rfl rfl rfl (by decide) rfl (mm_gi hG 0 5 66 (by decide)) ?_
  refine mm_aload_n rfl rfl ?_
  refine mm_getR rfl rfl rfl (by decide) rfl (mm_gi hG 0 0 1 (by decide)) ?_
  refine mm_isV1 (M2 := qN_follow) wd_473 qN_follow_k (by decide) (sN_follow hG hn hn2 hq hc hc2 hp hf hf2 hw hw2) rfl (by decide) (Nat.le_of_ble_eq_true rfl) (by decide) (by decide) rfl (by decide) ?_
  refine mm_aload_n rfl rfl ?_
  refine mm_getR rfl rfl rfl (by decide) rfl (mm_gi hG 0 5 66 (by decide)) ?_
  refine mm_getI (x := nI (max (min f (ed_rc (J 3) c q).1) ((ed_rc (J 3) c q).1 + 1 - w))) rfl rfl rfl (by decide) rfl (by simp [mm_set]) ?_
  refine mm_ireturn rfl rfl rfl (by decide) (by decide) ?_
  exact ⟨rfl, rfl, rfl, rfl⟩
set_option maxRecDepth 100000 in
set_option maxHeartbeats 4000000 in
theorem sE_info11 {E : mm_E} {G : mm_G} {J : mm_J} (hG : mm_GI G) {n q c f w : Nat} (hn : J 2 1 = nI n) (hn2 : n ≤ 100) (hq : q ≤ n) (hc : J 66 0 = nI c) (hc2 : c ≤ 20) (hp : J 1 3 = nI q) (hf : J 66 2 = nI f) (hf2 : f ≤ 200) (hw : J 66 1 = nI w) (hw2 : w ≤ 6) : mm_Ret E qE_info [.ref 0, .int (nI 11)] 86 J G (some (.int (nI (ed_rc (J 3) c q).1))) 86 J G := by
  refine mm_Met.of qE_info_ok (by decide) (mm_cats rfl) (Nat.le_of_ble_eq_true rfl) ?_
  refine mm_iload_n rfl rfl ?_
  refine mm_tableIn (off := 202) (tgt := 203) rfl (by decide) (by decide) rfl (by decide) ?_
  refine mm_aload_n rfl rfl ?_
  refine mm_getR rfl rfl rfl (by decide) rfl (mm_gi hG 0 5 66 (by decide)) ?_
  refine mm_aload_n rfl rfl ?_
  refine mm_getR rfl rfl rfl (by decide) rfl (mm_gi hG 0 0 1 (by decide)) ?_
  refine mm_getR rfl rfl rfl (by decide) rfl (mm_gi hG 1 0 2 (by decide)) ?_
  refine mm_aload_n rfl rfl ?_
  refine mm_getR rfl rfl rfl (by decide) rfl (mm_gi hG 0 0 1 (by decide)) ?_
  refine mm_getI (x := nI q) rfl rfl rfl (by decide) rfl hp ?_
  refine mm_isV2 (M2 := qN_rowOf) wd_495 qN_rowOf_k (by decide) (sN_rowOf hG hn hn2 hq hc hc2) rfl (by decide) (Nat.le_of_ble_eq_true rfl) (by decide) (by decide) rfl (by decide) ?_
  refine mm_ireturn rfl rfl rfl (by decide) (by decide) ?_
  exact ⟨rfl, rfl, rfl, rfl⟩
set_option maxRecDepth 100000 in
set_option maxHeartbeats 4000000 in
theorem sE_info12 {E : mm_E} {G : mm_G} {J : mm_J} (hG : mm_GI G)  : mm_Ret E qE_info [.ref 0, .int (nI 12)] 86 J G (some (.int (J 0 7))) 86 J G := by
  refine mm_Met.of qE_info_ok (by decide) (mm_cats rfl) (Nat.le_of_ble_eq_true rfl) ?_
  refine mm_iload_n rfl rfl ?_
  refine mm_tableIn (off := 224) (tgt := 225) rfl (by decide) (by decide) rfl (by decide) ?_
  refine mm_aload_n rfl rfl ?_
  refine mm_getI rfl rfl rfl (by decide) rfl rfl ?_
  refine mm_ireturn rfl rfl rfl (by decide) (by decide) ?_
  exact ⟨rfl, rfl, rfl, rfl⟩
set_option maxRecDepth 100000 in
set_option maxHeartbeats 4000000 in
theorem sE_info13 {E : mm_E} {G : mm_G} {J : mm_J} (hG : mm_GI G)  : mm_Ret E qE_info [.ref 0, .int (nI 13)] 86 J G (some (.int (J 0 8))) 86 J G := by
  refine mm_Met.of qE_info_ok (by decide) (mm_cats rfl) (Nat.le_of_ble_eq_true rfl) ?_
  refine mm_iload_n rfl rfl ?_
  refine mm_tableIn (off := 229) (tgt := 230) rfl (by decide) (by decide) rfl (by decide) ?_
  refine mm_aload_n rfl rfl ?_
  refine mm_getI rfl rfl rfl (by decide) rfl rfl ?_
  refine mm_ireturn rfl rfl rfl (by decide) (by decide) ?_
  exact ⟨rfl, rfl, rfl, rfl⟩
set_option maxRecDepth 100000 in
set_option maxHeartbeats 4000000 in
theorem sE_infoX {E : mm_E} {G : mm_G} {J : mm_J} {x : Int32} (h : x.toInt < 0 ∨ 13 < x.toInt) : mm_Ret E qE_info [.ref 0, .int x] 86 J G (some (.int (-1))) 86 J G := by
  refine mm_Met.of qE_info_ok (by decide) (mm_cats rfl) (Nat.le_of_ble_eq_true rfl) ?_
  refine mm_iload_n rfl rfl ?_
  refine mm_tableOut (tgt := 235) rfl h (by decide) ?_
  refine mm_iconst (v := -1) rfl (by decide) ?_
  refine mm_ireturn rfl rfl rfl (by decide) (by decide) ?_
  exact ⟨rfl, rfl, rfl, rfl⟩
