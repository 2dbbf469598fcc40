set_option maxRecDepth 100000 in
set_option maxHeartbeats 400000 in
theorem lE_undo0 {E : mm_E} {G : mm_G} {J : mm_J} (hG : mm_GI G) {n m : Nat} (hT : ed_TI J n m) {u : Nat} (h : u = 0 ∨ u + 20 ≤ m) (hum : u ≤ m) : mm_Go E qE_undo 25 [some (.ref 0), none, none, none, none] [.int (nI u)] 86 J G 0 0 (mm_Fm E qE_undo (mm_is (some (.int (-2))) 86 J G)) := by
  refine mm_istore_n rfl (by decide) ?_
  refine mm_aload_n rfl rfl ?_
  refine mm_getR rfl rfl rfl (by decide) rfl (mm_gi hG 0 2 16 (by decide)) ?_
  refine mm_iload_n rfl rfl ?_
  refine mm_isV1 (M2 := qH_keeps) wd_398 qH_keeps_k (by decide) (sH_keeps0 hG hT.2.2.2.2.1 hT.2.2.2.2.2 hum h) rfl (by decide) (Nat.le_of_ble_eq_true rfl) (by decide) (by decide) rfl (by decide) ?_
  refine mm_if_neN (tgt := 40) rfl (by decide) (by omega) (fun h34 => ?_) (fun h34 => ?_)
  · exact absurd rfl h34
  · refine mm_bipush (v := -2) rfl (by decide) ?_
    refine mm_ireturn rfl rfl rfl (by decide) (by decide) ?_
    exact ⟨rfl, rfl, rfl, rfl⟩
set_option maxRecDepth 100000 in
set_option maxHeartbeats 400000 in
theorem lE_undo1 {E : mm_E} {G : mm_G} {J : mm_J} (hG : mm_GI G) {n m : Nat} (hT : ed_TI J n m) {u a pu tk : Nat} (h1 : 1 ≤ u) (h2 : u ≤ m) (h3 : m < u + 20) (ha : J 17 (u % 20) = nI a) (hpu : J 18 (u % 20) = nI pu) (htk : J (20 + 2 * (u % 20)) 1 = nI tk) (htk2 : tk ≤ 100) (hap : a + pu ≤ n) (hnt : n - pu + tk ≤ 100) : mm_Go E qE_undo 25 [some (.ref 0), none, none, none, none] [.int (nI u)] 86 J G 0 0 (mm_Fm E qE_undo (mm_is (some (.int (nI 0))) 86 (mm_set (mm_set (ed_ed (mm_set (mm_cp (mm_set J 67 1 (nI 0)) (20 + 2 * (u % 20) + 1) (67 + 1) 0 0 tk) 67 1 (nI tk)) 67 n m a pu tk) 0 11 (nI u)) 1 3 (nI (a + tk))) G)) := by
  have hn2 := hT.2.1
  have hm2 := hT.2.2.2.2.2
  have hk20 : u % 20 < 20 := ed_mod
  refine mm_istore_n rfl (by decide) ?_
  refine mm_aload_n rfl rfl ?_
  refine mm_getR rfl rfl rfl (by decide) rfl (mm_gi hG 0 2 16 (by decide)) ?_
  refine mm_iload_n rfl rfl ?_
  refine mm_isV1 (M2 := qH_keeps) wd_398 qH_keeps_k (by decide) (sH_keeps1 hG hT.2.2.2.2.1 hm2 h1 h2 h3) rfl (by decide) (Nat.le_of_ble_eq_true rfl) (by decide) (by decide) rfl (by decide) ?_
  refine mm_if_neN (tgt := 40) rfl (by decide) (by omega) (fun h34 => ?_) (fun h34 => ?_)
  · refine mm_iload_n rfl rfl ?_
    refine mm_isS1 (M2 := qH_slotOf) wd_402 qH_slotOf_k (by decide) (sH_slotOf (by omega)) (Nat.le_of_ble_eq_true rfl) (by decide) (by decide) rfl (by decide) ?_
    refine mm_istore_n rfl (by decide) ?_
    refine mm_aload_n rfl rfl ?_
    refine mm_getR rfl rfl rfl (by decide) rfl (mm_gi hG 0 2 16 (by decide)) ?_
    refine mm_getR rfl rfl rfl (by decide) rfl (mm_gi hG 16 0 17 (by decide)) ?_
    refine mm_iload_n rfl rfl ?_
    refine mm_rdN rfl (by decide) rfl (by decide) ed_mod (by decide) rfl ha ?_
    refine mm_istore_n rfl (by decide) ?_
    refine mm_aload_n rfl rfl ?_
    refine mm_getR rfl rfl rfl (by decide) rfl (mm_gi hG 0 2 16 (by decide)) ?_
    refine mm_getR rfl rfl rfl (by decide) rfl (mm_gi hG 16 2 19 (by decide)) ?_
    refine mm_iload_n rfl rfl ?_
    refine mm_rrN rfl (by decide) rfl rfl (by decide) ed_mod (by decide) (hG.2.1 _ ed_mod) rfl ?_
    refine mm_astore rfl (by decide) ?_
    refine mm_aload_n rfl rfl ?_
    refine mm_getR rfl rfl rfl (by decide) rfl (mm_gi hG 0 6 67 (by decide)) ?_
    refine mm_isV0 (M2 := qL_clear) wd_222 qL_clear_k (by decide) (sL_clear hG rfl) rfl (by decide) (Nat.le_of_ble_eq_true rfl) (by decide) (by decide) rfl (by decide) ?_
    refine mm_aload_n rfl rfl ?_
    refine mm_getR rfl rfl rfl (by decide) rfl (mm_gi hG 0 6 67 (by decide)) ?_
    refine mm_aload rfl rfl ?_
    refine mm_iconst (v := nI 0) rfl (by decide) ?_
    refine mm_aload rfl rfl ?_
    refine mm_getI (x := nI tk) rfl rfl (mm_sy _ ed_mod) (mm_l1 (mm_sy _ ed_mod)) rfl (by simp [mm_set, htk, show ¬ 20 + 2 * (u % 20) = 67 by omega]) ?_
    refine mm_isV3 (M2 := qL_append) wd_403 qL_append_k (by decide) (sL_append (k := 0) (m := tk) hG rfl (mm_sy _ ed_mod) (by omega) (by simp [mm_set]) (by simp [mm_set, htk, show ¬ 20 + 2 * (u % 20) = 67 by omega]) (Nat.zero_le _) (Nat.le_refl _) htk2 (by omega)) rfl (by decide) (Nat.le_of_ble_eq_true rfl) (by decide) (by decide) rfl (by decide) ?_
    rw [Nat.sub_zero, Nat.zero_add]
    refine mm_aload_n rfl rfl ?_
    refine mm_getR rfl rfl rfl (by decide) rfl (mm_gi hG 0 2 16 (by decide)) ?_
    refine mm_aload_n rfl rfl ?_
    refine mm_getR rfl rfl rfl (by decide) rfl (mm_gi hG 0 0 1 (by decide)) ?_
    refine mm_iload_n rfl rfl ?_
    refine mm_aload_n rfl rfl ?_
    refine mm_getR rfl rfl rfl (by decide) rfl (mm_gi hG 0 2 16 (by decide)) ?_
    refine mm_getR rfl rfl rfl (by decide) rfl (mm_gi hG 16 1 18 (by decide)) ?_
    refine mm_iload_n rfl rfl ?_
    refine mm_rdN (x := nI pu) rfl (by decide) rfl (by decide) ed_mod (by decide) rfl (by simp [mm_set, mm_cp, hpu]) ?_
    refine mm_aload_n rfl rfl ?_
    refine mm_getR rfl rfl rfl (by decide) rfl (mm_gi hG 0 6 67 (by decide)) ?_
    refine mm_iconst (v := nI 0) rfl (by decide) ?_
    refine mm_isV5 (M2 := qH_edit) wd_240 qH_edit_k (by decide) (sH_ed1 (s := tk) (n := n) (m := m) hG rfl (by decide) (hT.fr rfl rfl rfl rfl) (by simp [mm_set]) htk2 hap hnt) rfl (by decide) (Nat.le_of_ble_eq_true rfl) (by decide) (by decide) rfl (by decide) ?_
    refine mm_pop rfl rfl ?_
    refine mm_aload_n rfl rfl ?_
    refine mm_iload_n rfl rfl ?_
    refine mm_putI rfl rfl rfl (by decide) rfl (Or.inl rfl) rfl rfl ?_
    refine mm_aload_n rfl rfl ?_
    refine mm_iload_n rfl rfl ?_
    refine mm_aload_n rfl rfl ?_
    refine mm_getR rfl rfl rfl (by decide) rfl (mm_gi hG 0 6 67 (by decide)) ?_
    refine mm_getI (x := nI tk) rfl rfl rfl (by decide) rfl (by simp [mm_set, ed_ed_o (show ¬ 67 = 2 ∧ ¬ 67 = 3 ∧ ¬ 67 = 4 ∧ ¬ (16 ≤ 67 ∧ 67 < 60) by decide)]) ?_
    refine mm_iaddN rfl ?_
    refine mm_isV1 (M2 := qE_moveTo) wd_301 qE_moveTo_k (by decide) (sE_moveTo hG) rfl (by decide) (Nat.le_of_ble_eq_true rfl) (by decide) (by decide) rfl (by decide) ?_
    refine mm_ireturn rfl rfl rfl (by decide) (by decide) ?_
    exact ⟨rfl, rfl, rfl, rfl⟩
  · exact absurd h34 (by decide)
set_option maxRecDepth 100000 in
set_option maxHeartbeats 4000000 in
theorem sE_undo0 {E : mm_E} {G : mm_G} {J : mm_J} (hG : mm_GI G) {n m : Nat} (hT : ed_TI J n m) {u : Nat} (hu : (J 0 8 = nI 19 ∧ J 0 11 = nI (u + 1)) ∨ (¬ J 0 8 = nI 19 ∧ u = m)) (h : u = 0 ∨ u + 20 ≤ m) (hum : u ≤ m) : mm_Ret E qE_undo [.ref 0] 86 J G (some (.int (-2))) 86 J G := by
  refine mm_Met.of qE_undo_ok (by decide) (mm_cats rfl) (Nat.le_of_ble_eq_true rfl) ?_
  have hm2 := hT.2.2.2.2.2
  refine mm_aload_n rfl rfl ?_
  refine mm_getI rfl rfl rfl (by decide) rfl rfl ?_
  refine mm_bipush (v := nI 19) rfl (by decide) ?_
  refine mm_icmp_ne (tgt := 18) rfl (by decide) (fun h6 => ?_) (fun h6 => ?_)
  · obtain rfl : m = u := (hu.elim (fun q => absurd q.1 h6) (fun q => q.2)).symm
    refine mm_aload_n rfl rfl ?_
    refine mm_getR rfl rfl rfl (by decide) rfl (mm_gi hG 0 2 16 (by decide)) ?_
    refine mm_getI (x := nI m) rfl rfl rfl (by decide) rfl hT.2.2.2.2.1 ?_
    exact lE_undo0 hG hT h hum
  · have hun := hu.elim (fun q => q.2) (fun q => absurd h6 q.1)
    refine mm_aload_n rfl rfl ?_
    refine mm_getI (x := nI (u + 1)) rfl rfl rfl (by decide) rfl hun ?_
    refine mm_iconst (v := nI 1) rfl (by decide) ?_
    refine mm_isubN rfl (by omega) ?_
    refine mm_goto (tgt := 25) rfl (by decide) ?_
    rw [Nat.add_sub_cancel]
    exact lE_undo0 hG hT h hum
set_option maxRecDepth 100000 in
set_option maxHeartbeats 4000000 in
theorem sE_undo1 {E : mm_E} {G : mm_G} {J : mm_J} (hG : mm_GI G) {n m : Nat} (hT : ed_TI J n m) {u a pu tk : Nat} (h1 : 1 ≤ u) (h2 : u ≤ m) (h3 : m < u + 20) (ha : J 17 (u % 20) = nI a) (hpu : J 18 (u % 20) = nI pu) (htk : J (20 + 2 * (u % 20)) 1 = nI tk) (htk2 : tk ≤ 100) (hap : a + pu ≤ n) (hnt : n - pu + tk ≤ 100) (hu : (J 0 8 = nI 19 ∧ J 0 11 = nI (u + 1)) ∨ (¬ J 0 8 = nI 19 ∧ u = m)) : mm_Ret E qE_undo [.ref 0] 86 J G (some (.int (nI 0))) 86 (mm_set (mm_set (ed_ed (mm_set (mm_cp (mm_set J 67 1 (nI 0)) (20 + 2 * (u % 20) + 1) (67 + 1) 0 0 tk) 67 1 (nI tk)) 67 n m a pu tk) 0 11 (nI u)) 1 3 (nI (a + tk))) G := by
  refine mm_Met.of qE_undo_ok (by decide) (mm_cats rfl) (Nat.le_of_ble_eq_true rfl) ?_
  have hm2 := hT.2.2.2.2.2
  refine mm_aload_n rfl rfl ?_
  refine mm_getI rfl rfl rfl (by decide) rfl rfl ?_
  refine mm_bipush (v := nI 19) rfl (by decide) ?_
  refine mm_icmp_ne (tgt := 18) rfl (by decide) (fun h6 => ?_) (fun h6 => ?_)
  · obtain rfl : m = u := (hu.elim (fun q => absurd q.1 h6) (fun q => q.2)).symm
    refine mm_aload_n rfl rfl ?_
    refine mm_getR rfl rfl rfl (by decide) rfl (mm_gi hG 0 2 16 (by decide)) ?_
    refine mm_getI (x := nI m) rfl rfl rfl (by decide) rfl hT.2.2.2.2.1 ?_
    exact lE_undo1 hG hT h1 h2 h3 ha hpu htk htk2 hap hnt
  · have hun := hu.elim (fun q => q.2) (fun q => absurd h6 q.1)
    refine mm_aload_n rfl rfl ?_
    refine mm_getI (x := nI (u + 1)) rfl rfl rfl (by decide) rfl hun ?_
    refine mm_iconst (v := nI 1) rfl (by decide) ?_
    refine mm_isubN rfl (by omega) ?_
    refine mm_goto (tgt := 25) rfl (by decide) ?_
    rw [Nat.add_sub_cancel]
    exact lE_undo1 hG hT h1 h2 h3 ha hpu htk htk2 hap hnt
/-- the first place from p on, among k, where g of length l stands in f -/
def ed_sr (f g : Nat → Int32) (l : Nat) : Nat → Nat → Option Nat
  | 0, _ => none
  | k + 1, p => if ed_at f g p l = true then some p else ed_sr f g l k (p + 1)
def ed_srJ (J : mm_J) (l : Nat) : Option Nat → mm_J
  | none => J
  | some q => mm_set J 1 3 (nI (q + l))
def ed_srR : Option Nat → Int32
  | none => -2
  | some _ => nI 0
set_option maxRecDepth 100000 in
set_option maxHeartbeats 4000000 in
theorem lE_search {E : mm_E} {G : mm_G} {J : mm_J} (hG : mm_GI G) {n l r : Nat} (hn : J 2 1 = nI n) (hn2 : n ≤ 100) (hr : mm_SH r = .inl 2) (hl : J r 1 = nI l) (hl2 : l ≤ 100) : ∀ (k p : Nat), n + 1 - (p + l) = k → p ≤ 101 → mm_Go E qE_search 31 [some (.ref 0), some (.ref r), some (.int (nI p))] [] 86 J G 0 0 (mm_Fm E qE_search (mm_is (some (.int (ed_srR (ed_sr (J 3) (J (r + 1)) l k p)))) 86 (ed_srJ J l (ed_sr (J 3) (J (r + 1)) l k p)) G))
  | 0, p, hk, hp => by
    refine mm_iload_n rfl rfl ?_
    refine mm_aload_n rfl rfl ?_
    refine mm_getI (x := nI l) rfl rfl hr (mm_l1 hr) rfl hl ?_
    refine mm_iaddN rfl ?_
    refine mm_aload_n rfl rfl ?_
    refine mm_getR rfl rfl rfl (by decide) rfl (mm_gi hG 0 0 1 (by decide)) ?_
    refine mm_getR rfl rfl rfl (by decide) rfl (mm_gi hG 1 0 2 (by decide)) ?_
    refine mm_getI (x := nI n) rfl rfl rfl (by decide) rfl hn ?_
    refine mm_icmp_gtN (tgt := 82) rfl (by decide) (by omega) (by omega) (fun h47 => ?_) (fun h47 => ?_)
    · refine mm_bipush (v := -2) rfl (by decide) ?_
      refine mm_ireturn rfl rfl rfl (by decide) (by decide) ?_
      exact ⟨rfl, rfl, rfl, rfl⟩
    · exact absurd h47 (by omega)
  | k + 1, p, hk, hp => by
    refine mm_iload_n rfl rfl ?_
    refine mm_aload_n rfl rfl ?_
    refine mm_getI (x := nI l) rfl rfl hr (mm_l1 hr) rfl hl ?_
    refine mm_iaddN rfl ?_
    refine mm_aload_n rfl rfl ?_
    refine mm_getR rfl rfl rfl (by decide) rfl (mm_gi hG 0 0 1 (by decide)) ?_
    refine mm_getR rfl rfl rfl (by decide) rfl (mm_gi hG 1 0 2 (by decide)) ?_
    refine mm_getI (x := nI n) rfl rfl rfl (by decide) rfl hn ?_
    refine mm_icmp_gtN (tgt := 82) rfl (by decide) (by omega) (by omega) (fun h47 => ?_) (fun h47 => ?_)
    · exact absurd h47 (by omega)
    · refine mm_aload_n rfl rfl ?_
      refine mm_getR rfl rfl rfl (by decide) rfl (mm_gi hG 0 0 1 (by decide)) ?_
      refine mm_getR rfl rfl rfl (by decide) rfl (mm_gi hG 1 0 2 (by decide)) ?_
      refine mm_aload_n rfl rfl ?_
      refine mm_iload_n rfl rfl ?_
      refine mm_isV2 (M2 := qL_has) wd_408 qL_has_k (by decide) (sL_has hG hr hn hn2 hl hl2 (by omega)) rfl (by decide) (Nat.le_of_ble_eq_true rfl) (by decide) (by decide) rfl (by decide) ?_
      refine mm_if_eqN (tgt := 76) rfl (by decide) (ed_b31 _) (fun h62 => ?_) (fun h62 => ?_)
      · rw [show ed_sr (J 3) (J (r + 1)) l (k + 1) p = ed_sr (J 3) (J (r + 1)) l k (p + 1) from by rw [ed_sr, if_neg (by rw [ed_beq h62]; decide)]]
        refine mm_iincN rfl rfl (mm_inc1 _) (by decide) ?_
        refine mm_goto (tgt := 31) rfl (by decide) ?_
        exact lE_search hG hn hn2 hr hl hl2 k (p + 1) (by omega) (by omega)
      · rw [show ed_sr (J 3) (J (r + 1)) l (k + 1) p = some p from by rw [ed_sr, if_pos (ed_bne h62)]]
        refine mm_aload_n rfl rfl ?_
        refine mm_iload_n rfl rfl ?_
        refine mm_aload_n rfl rfl ?_
        refine mm_getI (x := nI l) rfl rfl hr (mm_l1 hr) rfl hl ?_
        refine mm_iaddN rfl ?_
        refine mm_isV1 (M2 := qE_moveTo) wd_301 qE_moveTo_k (by decide) (sE_moveTo hG) rfl (by decide) (Nat.le_of_ble_eq_true rfl) (by decide) (by decide) rfl (by decide) ?_
        refine mm_ireturn rfl rfl rfl (by decide) (by decide) ?_
        exact ⟨rfl, rfl, rfl, rfl⟩
set_option maxRecDepth 100000 in
set_option maxHeartbeats 4000000 in
theorem sE_search0 {E : mm_E} {G : mm_G} {J : mm_J} (hG : mm_GI G) (hc : J 6 1 = nI 0) : mm_Ret E qE_search [.ref 0] 86 J G (some (.int (-2))) 86 J G := by
  refine mm_Met.of qE_search_ok (by decide) (mm_cats rfl) (Nat.le_of_ble_eq_true rfl) ?_
  refine mm_aload_n rfl rfl ?_
  refine mm_getR rfl rfl rfl (by decide) rfl (mm_gi hG 0 1 6 (by decide)) ?_
  refine mm_getI (x := nI 0) rfl rfl rfl (by decide) rfl hc ?_
  refine mm_if_neN (tgt := 13) rfl (by decide) (by decide) (fun h7 => ?_) (fun h7 => ?_)
  · exact absurd rfl h7
  · refine mm_bipush (v := -2) rfl (by decide) ?_
    refine mm_ireturn rfl rfl rfl (by decide) (by decide) ?_
    exact ⟨rfl, rfl, rfl, rfl⟩
set_option maxRecDepth 100000 in
set_option maxHeartbeats 4000000 in
theorem sE_search1 {E : mm_E} {G : mm_G} {J : mm_J} (hG : mm_GI G) {n l r : Nat} (hn : J 2 1 = nI n) (hn2 : n ≤ 100) (hr : mm_SH r = .inl 2) (hl : J r 1 = nI l) (hl2 : l ≤ 100) {c q : Nat} (hc : J 6 1 = nI c) (hc1 : 0 < c) (hc2 : c ≤ 4) (hg : G 7 0 = some r) (hp : J 1 3 = nI q) (hq : q ≤ n) : mm_Ret E qE_search [.ref 0] 86 J G (some (.int (ed_srR (ed_sr (J 3) (J (r + 1)) l (n + 1 - (q + l)) q)))) 86 (ed_srJ J l (ed_sr (J 3) (J (r + 1)) l (n + 1 - (q + l)) q)) G := by
  refine mm_Met.of qE_search_ok (by decide) (mm_cats rfl) (Nat.le_of_ble_eq_true rfl) ?_
  refine mm_aload_n rfl rfl ?_
  refine mm_getR rfl rfl rfl (by decide) rfl (mm_gi hG 0 1 6 (by decide)) ?_
  refine mm_getI (x := nI c) rfl rfl rfl (by decide) rfl hc ?_
  refine mm_if_neN (tgt := 13) rfl (by decide) (by omega) (fun h7 => ?_) (fun h7 => ?_)
  · refine mm_aload_n rfl rfl ?_
    refine mm_getR rfl rfl rfl (by decide) rfl (mm_gi hG 0 1 6 (by decide)) ?_
    refine mm_getR rfl rfl rfl (by decide) rfl (mm_gi hG 6 0 7 (by decide)) ?_
    refine mm_iconst (v := nI 0) rfl (by decide) ?_
    refine mm_rrN rfl (by decide) rfl rfl (by decide) (by decide) (by decide) hg rfl ?_
    refine mm_astore_n rfl (by decide) ?_
    refine mm_aload_n rfl rfl ?_
    refine mm_getR rfl rfl rfl (by decide) rfl (mm_gi hG 0 0 1 (by decide)) ?_
    refine mm_getI (x := nI q) rfl rfl rfl (by decide) rfl hp ?_
    refine mm_istore_n rfl (by decide) ?_
    exact lE_search hG hn hn2 hr hl hl2 _ q rfl (by omega)
  · exact absurd h7 (by omega)
set_option maxRecDepth 100000 in
set_option maxHeartbeats 4000000 in
theorem sE_moveToGoal1 {E : mm_E} {G : mm_G} {J : mm_J} (hG : mm_GI G) {n q b : Nat} (hn : J 2 1 = nI n) (hn2 : n ≤ 100) (hp : J 1 3 = nI q) (hq : q ≤ n) (hb : b ≤ n) (h : ¬ J 0 8 = nI 2 ∧ ¬ J 0 8 = nI 3) : mm_Ret E qE_moveToGoal [.ref 0, .int (nI b)] 86 J G (some (.int (nI 0))) 86 (mm_set (mm_set J 0 9 (nI (q - ed_lb (J 3) q))) 1 3 (nI (min (b + (q - ed_lb (J 3) q)) (ed_le (J 3) n b)))) G := by
  refine mm_Met.of qE_moveToGoal_ok (by decide) (mm_cats rfl) (Nat.le_of_ble_eq_true rfl) ?_
  have hlb := ed_lb_le (f := J 3) (p := q)
  have hle := ed_le_le (f := J 3) hb
  refine mm_aload_n rfl rfl ?_
  refine mm_getI rfl rfl rfl (by decide) rfl rfl ?_
  refine mm_iconst (v := nI 2) rfl (by decide) ?_
  refine mm_icmp_eq (tgt := 42) rfl (by decide) (fun h5 => ?_) (fun h5 => ?_)
  · exact absurd h5 h.1
  · refine mm_aload_n rfl rfl ?_
    refine mm_getI rfl rfl rfl (by decide) rfl rfl ?_
    refine mm_iconst (v := nI 3) rfl (by decide) ?_
    refine mm_icmp_eq (tgt := 42) rfl (by decide) (fun h13 => ?_) (fun h13 => ?_)
    · exact absurd h13 h.2
    · refine mm_aload_n rfl rfl ?_
      refine mm_aload_n rfl rfl ?_
      refine mm_getR rfl rfl rfl (by decide) rfl (mm_gi hG 0 0 1 (by decide)) ?_
      refine mm_getI (x := nI q) rfl rfl rfl (by decide) rfl hp ?_
      refine mm_aload_n rfl rfl ?_
      refine mm_getR rfl rfl rfl (by decide) rfl (mm_gi hG 0 0 1 (by decide)) ?_
      refine mm_aload_n rfl rfl ?_
      refine mm_getR rfl rfl rfl (by decide) rfl (mm_gi hG 0 0 1 (by decide)) ?_
      refine mm_getI (x := nI q) rfl rfl rfl (by decide) rfl hp ?_
      refine mm_isV1 (M2 := qT_lineBeginning) wd_324 qT_lineBeginning_k (by decide) (sT_lineBeginning hG (by omega)) rfl (by decide) (Nat.le_of_ble_eq_true rfl) (by decide) (by decide) rfl (by decide) ?_
      refine mm_isubN rfl (by omega) ?_
      refine mm_putI rfl rfl rfl (by decide) rfl (Or.inl rfl) rfl rfl ?_
      refine mm_aload_n rfl rfl ?_
      refine mm_iload_n rfl rfl ?_
      refine mm_aload_n rfl rfl ?_
      refine mm_getI (x := nI (q - ed_lb (J 3) q)) rfl rfl rfl (by decide) rfl (by simp [mm_set]) ?_
      refine mm_iaddN rfl ?_
      refine mm_aload_n rfl rfl ?_
      refine mm_getR rfl rfl rfl (by decide) rfl (mm_gi hG 0 0 1 (by decide)) ?_
      refine mm_iload_n rfl rfl ?_
      refine mm_isV1 (M2 := qT_lineEnd) wd_325 qT_lineEnd_k (by decide) (sT_lineEnd (n := n) hG (by simp [mm_set, hn]) hn2 hb) rfl (by decide) (Nat.le_of_ble_eq_true rfl) (by decide) (by decide) rfl (by decide) ?_
      rw [show mm_set J 0 9 (nI (q - ed_lb (J 3) q)) 3 = J 3 from rfl]
      refine mm_minN (by omega) (by omega) rfl wd_298 wd_299 wd_10 wd_300 (by decide) (Nat.le_of_ble_eq_true rfl) (by decide) (by decide) ?_
      refine mm_isV1 (M2 := qE_moveTo) wd_301 qE_moveTo_k (by decide) (sE_moveTo hG) rfl (by decide) (Nat.le_of_ble_eq_true rfl) (by decide) (by decide) rfl (by decide) ?_
      refine mm_ireturn rfl rfl rfl (by decide) (by decide) ?_
      exact ⟨rfl, rfl, rfl, rfl⟩
set_option maxRecDepth 100000 in
set_option maxHeartbeats 4000000 in
theorem sE_moveToGoal2 {E : mm_E} {G : mm_G} {J : mm_J} (hG : mm_GI G) {n q b : Nat} (hn : J 2 1 = nI n) (hn2 : n ≤ 100) (hp : J 1 3 = nI q) (hq : q ≤ n) (hb : b ≤ n) (h : J 0 8 = nI 2 ∨ J 0 8 = nI 3) {g : Nat} (hg : J 0 9 = nI g) (hg2 : g ≤ 100) : mm_Ret E qE_moveToGoal [.ref 0, .int (nI b)] 86 J G (some (.int (nI 0))) 86 (mm_set J 1 3 (nI (min (b + g) (ed_le (J 3) n b)))) G := by
  refine mm_Met.of qE_moveToGoal_ok (by decide) (mm_cats rfl) (Nat.le_of_ble_eq_true rfl) ?_
  have hle := ed_le_le (f := J 3) hb
  refine mm_aload_n rfl rfl ?_
  refine mm_getI rfl rfl rfl (by decide) rfl rfl ?_
  refine mm_iconst (v := nI 2) rfl (by decide) ?_
  refine mm_icmp_eq (tgt := 42) rfl (by decide) (fun h5 => ?_) (fun h5 => ?_)
  · refine mm_aload_n rfl rfl ?_
    refine mm_iload_n rfl rfl ?_
    refine mm_aload_n rfl rfl ?_
    refine mm_getI (x := nI g) rfl rfl rfl (by decide) rfl hg ?_
    refine mm_iaddN rfl ?_
    refine mm_aload_n rfl rfl ?_
    refine mm_getR rfl rfl rfl (by decide) rfl (mm_gi hG 0 0 1 (by decide)) ?_
    refine mm_iload_n rfl rfl ?_
    refine mm_isV1 (M2 := qT_lineEnd) wd_325 qT_lineEnd_k (by decide) (sT_lineEnd (n := n) hG hn hn2 hb) rfl (by decide) (Nat.le_of_ble_eq_true rfl) (by decide) (by decide) rfl (by decide) ?_
    refine mm_minN (by omega) (by omega) rfl wd_298 wd_299 wd_10 wd_300 (by decide) (Nat.le_of_ble_eq_true rfl) (by decide) (by decide) ?_
    refine mm_isV1 (M2 := qE_moveTo) wd_301 qE_moveTo_k (by decide) (sE_moveTo hG) rfl (by decide) (Nat.le_of_ble_eq_true rfl) (by decide) (by decide) rfl (by decide) ?_
    refine mm_ireturn rfl rfl rfl (by decide) (by decide) ?_
    exact ⟨rfl, rfl, rfl, rfl⟩
  · refine mm_aload_n rfl rfl ?_
    refine mm_getI rfl rfl rfl (by decide) rfl rfl ?_
    refine mm_iconst (v := nI 3) rfl (by decide) ?_
    refine mm_icmp_eq (tgt := 42) rfl (by decide) (fun h13 => ?_) (fun h13 => ?_)
    · refine mm_aload_n rfl rfl ?_
      refine mm_iload_n rfl rfl ?_
      refine mm_aload_n rfl rfl ?_
      refine mm_getI (x := nI g) rfl rfl rfl (by decide) rfl hg ?_
      refine mm_iaddN rfl ?_
      refine mm_aload_n rfl rfl ?_
      refine mm_getR rfl rfl rfl (by decide) rfl (mm_gi hG 0 0 1 (by decide)) ?_
      refine mm_iload_n rfl rfl ?_
      refine mm_isV1 (M2 := qT_lineEnd) wd_325 qT_lineEnd_k (by decide) (sT_lineEnd (n := n) hG hn hn2 hb) rfl (by decide) (Nat.le_of_ble_eq_true rfl) (by decide) (by decide) rfl (by decide) ?_
      refine mm_minN (by omega) (by omega) rfl wd_298 wd_299 wd_10 wd_300 (by decide) (Nat.le_of_ble_eq_true rfl) (by decide) (by decide) ?_
      refine mm_isV1 (M2 := qE_moveTo) wd_301 qE_moveTo_k (by decide) (sE_moveTo hG) rfl (by decide) (Nat.le_of_ble_eq_true rfl) (by decide) (by decide) rfl (by decide) ?_
      refine mm_ireturn rfl rfl rfl (by decide) (by decide) ?_
      exact ⟨rfl, rfl, rfl, rfl⟩
    · exact absurd h (fun q => q.elim h5 h13)
