def ed_TI (J : mm_J) (n m : Nat) : Prop := J 2 1 = nI n ∧ n ≤ 100 ∧ (∀ i, i < 5 → ed_vp (J 4 i)) ∧ (∀ i, i < 5 → ed_vb (J 5 i)) ∧ J 16 3 = nI m ∧ m < 2 ^ 30
theorem ed_TI.fr {J J' : mm_J} {n m : Nat} (h : ed_TI J n m) (e2 : J' 2 = J 2) (e4 : J' 4 = J 4) (e5 : J' 5 = J 5) (e16 : J' 16 = J 16) : ed_TI J' n m := by
  unfold ed_TI
  rw [e2, e4, e5, e16]
  exact h
/-- an edit that makes a step -/
def ed_ed (J : mm_J) (x n m p d s : Nat) : mm_J := ed_rp (ed_st J m p d s) x n p d s
theorem sH_ed1 {E : mm_E} {G : mm_G} {J : mm_J} (hG : mm_GI G) {x n m p d s : Nat} (hx : mm_SH x = .inl 2) (hxr : 6 ≤ x ∧ ¬ (16 ≤ x ∧ x < 60)) (hT : ed_TI J n m) (hs : J x 1 = nI s) (hs2 : s ≤ 100) (hpd : p + d ≤ n) (hs3 : n - d + s ≤ 100) : mm_Ret E qH_edit [.ref 16, .ref 1, .int (nI p), .int (nI d), .ref x, .int (nI 0)] 86 J G (some (.int (nI 0))) 86 (ed_ed J x n m p d s) G :=
  sH_edit1 hG hx hT.1 hT.2.1 hs hs2 hpd hxr hs3 hT.2.2.1 hT.2.2.2.1 hT.2.2.2.2.1 hT.2.2.2.2.2
theorem ed_rp_o {J : mm_J} {x n p d s a b : Nat} (h : ¬ a = 2 ∧ ¬ a = 3 ∧ ¬ a = 4) : ed_rp J x n p d s a b = J a b := by
  simp [ed_rp, ed_pl, mm_set, mm_cp, h.1, h.2.1, h.2.2]
theorem ed_ed_o {J : mm_J} {x n m p d s a b : Nat} (h : ¬ a = 2 ∧ ¬ a = 3 ∧ ¬ a = 4 ∧ ¬ (16 ≤ a ∧ a < 60)) : ed_ed J x n m p d s a b = J a b := by
  unfold ed_ed
  rw [ed_rp_o (by omega), ed_st_o (by omega)]
/-- the draft: k times c -/
def ed_fill (J : mm_J) (c : Int32) : Nat → mm_J
  | 0 => mm_set J 67 1 (nI 0)
  | k + 1 => mm_set (mm_set (ed_fill J c k) 68 k c) 67 1 (nI (k + 1))
theorem ed_fill_o (J : mm_J) (c : Int32) {a : Nat} (h : ¬ a = 67 ∧ ¬ a = 68) : ∀ k, ed_fill J c k a = J a
  | 0 => by funext b; simp [ed_fill, mm_set, h.1]
  | k + 1 => by
    funext b
    have := congrFun (ed_fill_o J c h k) b
    simp [ed_fill, mm_set, h.1, h.2, this]
theorem ed_fill_n (J : mm_J) (c : Int32) : ∀ k, ed_fill J c k 67 1 = nI k
  | 0 => by simp [ed_fill, mm_set]
  | k + 1 => by simp [ed_fill, mm_set]
theorem ed_fill_c (J : mm_J) (c : Int32) : ∀ k i, i < k → ed_fill J c k 68 i = c
  | 0, i, h => absurd h (by omega)
  | k + 1, i, h => by
    by_cases e : i = k
    · simp [ed_fill, mm_set, e]
    · have := ed_fill_c J c k i (by omega)
      simp [ed_fill, mm_set, e, this]
theorem ed_TI.fill {J : mm_J} {n m : Nat} (h : ed_TI J n m) (c : Int32) (k : Nat) : ed_TI (ed_fill J c k) n m := h.fr (ed_fill_o J c (by decide) k) (ed_fill_o J c (by decide) k) (ed_fill_o J c (by decide) k) (ed_fill_o J c (by decide) k)
set_option maxRecDepth 100000 in
set_option maxHeartbeats 4000000 in
theorem sE_takeOut0 {E : mm_E} {G : mm_G} {J : mm_J} {a b : Nat} (ha : a < 2 ^ 31) (hab : b ≤ a) : mm_Ret E qE_takeOut [.ref 0, .int (nI a), .int (nI b)] 86 J G (some (.int (-2))) 86 J G := by
  refine mm_Met.of qE_takeOut_ok (by decide) (mm_cats rfl) (Nat.le_of_ble_eq_true rfl) ?_
  refine mm_iload_n rfl rfl ?_
  refine mm_iload_n rfl rfl ?_
  refine mm_icmp_ltN (tgt := 8) rfl (by decide) (by omega) (by omega) (fun h2 => ?_) (fun h2 => ?_)
  · exact absurd h2 (by omega)
  · refine mm_bipush (v := -2) rfl (by decide) ?_
    refine mm_ireturn rfl rfl rfl (by decide) (by decide) ?_
    exact ⟨rfl, rfl, rfl, rfl⟩
set_option maxRecDepth 100000 in
set_option maxHeartbeats 4000000 in
theorem sE_takeOut1 {E : mm_E} {G : mm_G} {J : mm_J} (hG : mm_GI G) {n m : Nat} (hT : ed_TI J n m) {a b : Nat} (hab : a < b) (hb : b ≤ n) : mm_Ret E qE_takeOut [.ref 0, .int (nI a), .int (nI b)] 86 J G (some (.int (nI 0))) 86 (mm_set (ed_ed (mm_set J 67 1 (nI 0)) 67 n m a (b - a) 0) 1 3 (nI a)) G := by
  refine mm_Met.of qE_takeOut_ok (by decide) (mm_cats rfl) (Nat.le_of_ble_eq_true rfl) ?_
  have hn2 := hT.2.1
  refine mm_iload_n rfl rfl ?_
  refine mm_iload_n rfl rfl ?_
  refine mm_icmp_ltN (tgt := 8) rfl (by decide) (by omega) (by omega) (fun h2 => ?_) (fun h2 => ?_)
  · refine mm_aload_n rfl rfl ?_
    refine mm_getR rfl rfl rfl (by decide) rfl (mm_gi hG 0 6 67 (by decide)) ?_
    refine mm_isV0 (M2 := qL_clear) wd_222 qL_clear_k (by decide) (sL_clear hG rfl) rfl (by decide) (Nat.le_of_ble_eq_true rfl) (by decide) (by decide) rfl (by decide) ?_
    refine mm_aload_n rfl rfl ?_
    refine mm_getR rfl rfl rfl (by decide) rfl (mm_gi hG 0 2 16 (by decide)) ?_
    refine mm_aload_n rfl rfl ?_
    refine mm_getR rfl rfl rfl (by decide) rfl (mm_gi hG 0 0 1 (by decide)) ?_
    refine mm_iload_n rfl rfl ?_
    refine mm_iload_n rfl rfl ?_
    refine mm_iload_n rfl rfl ?_
    refine mm_isubN rfl (by omega) ?_
    refine mm_aload_n rfl rfl ?_
    refine mm_getR rfl rfl rfl (by decide) rfl (mm_gi hG 0 6 67 (by decide)) ?_
    refine mm_iconst (v := nI 0) rfl (by decide) ?_
    refine mm_isV5 (M2 := qH_edit) wd_240 qH_edit_k (by decide) (sH_ed1 (s := 0) (n := n) (m := m) hG rfl (by decide) (hT.fr rfl rfl rfl rfl) (by simp [mm_set]) (by omega) (by omega) (by omega)) rfl (by decide) (Nat.le_of_ble_eq_true rfl) (by decide) (by decide) rfl (by decide) ?_
    refine mm_pop rfl rfl ?_
    refine mm_aload_n rfl rfl ?_
    refine mm_iload_n rfl rfl ?_
    refine mm_isV1 (M2 := qE_moveTo) wd_301 qE_moveTo_k (by decide) (sE_moveTo hG) rfl (by decide) (Nat.le_of_ble_eq_true rfl) (by decide) (by decide) rfl (by decide) ?_
    refine mm_ireturn rfl rfl rfl (by decide) (by decide) ?_
    exact ⟨rfl, rfl, rfl, rfl⟩
  · exact absurd h2 (by omega)
def ed_lke (f : Nat → Int32) (n q : Nat) : Nat := if q < ed_le f n q then ed_le f n q else min (ed_le f n q + 1) n
set_option maxRecDepth 100000 in
set_option maxHeartbeats 4000000 in
theorem sE_lineKillEnd {E : mm_E} {G : mm_G} {J : mm_J} (hG : mm_GI G) {n q : Nat} (hn : J 2 1 = nI n) (hn2 : n ≤ 100) (hp : J 1 3 = nI q) (hq : q ≤ n) : mm_Ret E qE_lineKillEnd [.ref 0] 86 J G (some (.int (nI (ed_lke (J 3) n q)))) 86 J G := by
  refine mm_Met.of qE_lineKillEnd_ok (by decide) (mm_cats rfl) (Nat.le_of_ble_eq_true rfl) ?_
  have hle := ed_le_le (f := J 3) hq
  refine mm_aload_n rfl rfl ?_
  refine mm_getR rfl rfl rfl (by decide) rfl (mm_gi hG 0 0 1 (by decide)) ?_
  refine mm_aload_n rfl rfl ?_
  refine mm_getR rfl rfl rfl (by decide) rfl (mm_gi hG 0 0 1 (by decide)) ?_
  refine mm_getI (x := nI q) rfl rfl rfl (by decide) rfl hp ?_
  refine mm_isV1 (M2 := qT_lineEnd) wd_325 qT_lineEnd_k (by decide) (sT_lineEnd hG hn hn2 hq) rfl (by decide) (Nat.le_of_ble_eq_true rfl) (by decide) (by decide) rfl (by decide) ?_
  refine mm_istore_n rfl (by decide) ?_
  refine mm_iload_n rfl rfl ?_
  refine mm_aload_n rfl rfl ?_
  refine mm_getR rfl rfl rfl (by decide) rfl (mm_gi hG 0 0 1 (by decide)) ?_
  refine mm_getI (x := nI q) rfl rfl rfl (by decide) rfl hp ?_
  refine mm_icmp_leN (tgt := 30) rfl (by decide) (by omega) (by omega) (fun h23 => ?_) (fun h23 => ?_)
  · refine mm_iload_n rfl rfl ?_
    refine mm_iconst (v := nI 1) rfl (by decide) ?_
    refine mm_iaddN rfl ?_
    refine mm_aload_n rfl rfl ?_
    refine mm_getR rfl rfl rfl (by decide) rfl (mm_gi hG 0 0 1 (by decide)) ?_
    refine mm_getR rfl rfl rfl (by decide) rfl (mm_gi hG 1 0 2 (by decide)) ?_
    refine mm_getI (x := nI n) rfl rfl rfl (by decide) rfl hn ?_
    refine mm_minN (by omega) (by omega) rfl wd_298 wd_299 wd_10 wd_300 (by decide) (Nat.le_of_ble_eq_true rfl) (by decide) (by decide) ?_
    refine mm_ireturn rfl rfl rfl (by decide) (by decide) ?_
    exact ⟨by rw [ed_lke, if_neg (by omega)], rfl, rfl, rfl⟩
  · refine mm_iload_n rfl rfl ?_
    refine mm_goto (tgt := 46) rfl (by decide) ?_
    refine mm_ireturn rfl rfl rfl (by decide) (by decide) ?_
    exact ⟨by rw [ed_lke, if_pos h23], rfl, rfl, rfl⟩
set_option maxRecDepth 100000 in
set_option maxHeartbeats 4000000 in
theorem sE_regionBeginning1 {E : mm_E} {G : mm_G} {J : mm_J} (hG : mm_GI G) {q k : Nat} (hp : J 1 3 = nI q) (hq : q ≤ 100) (hk : J 4 4 = nI k) (hk2 : k ≤ 100) : mm_Ret E qE_regionBeginning [.ref 0] 86 J G (some (.int (nI (min k q)))) 86 J G := by
  refine mm_Met.of qE_regionBeginning_ok (by decide) (mm_cats rfl) (Nat.le_of_ble_eq_true rfl) ?_
  refine mm_aload_n rfl rfl ?_
  refine mm_getR rfl rfl rfl (by decide) rfl (mm_gi hG 0 0 1 (by decide)) ?_
  refine mm_getR rfl rfl rfl (by decide) rfl (mm_gi hG 1 1 4 (by decide)) ?_
  refine mm_iconst (v := nI 4) rfl (by decide) ?_
  refine mm_rdN rfl (by decide) rfl (by decide) (by decide) (by decide) rfl hk ?_
  refine mm_istore_n rfl (by decide) ?_
  refine mm_iload_n rfl rfl ?_
  refine mm_bipush (v := -2) rfl (by decide) ?_
  refine mm_icmp_ne (tgt := 26) rfl (by decide) (fun h13 => ?_) (fun h13 => ?_)
  · refine mm_iload_n rfl rfl ?_
    refine mm_aload_n rfl rfl ?_
    refine mm_getR rfl rfl rfl (by decide) rfl (mm_gi hG 0 0 1 (by decide)) ?_
    refine mm_getI (x := nI q) rfl rfl rfl (by decide) rfl hp ?_
    refine mm_minN (by omega) (by omega) rfl wd_298 wd_299 wd_10 wd_300 (by decide) (Nat.le_of_ble_eq_true rfl) (by decide) (by decide) ?_
    refine mm_ireturn rfl rfl rfl (by decide) (by decide) ?_
    exact ⟨rfl, rfl, rfl, rfl⟩
  · exact absurd h13 (ed_m2n (by omega))
set_option maxRecDepth 100000 in
set_option maxHeartbeats 4000000 in
theorem sE_regionBeginning0 {E : mm_E} {G : mm_G} {J : mm_J} (hG : mm_GI G) {q : Nat} (hp : J 1 3 = nI q) (hq : q ≤ 100) (hk : J 4 4 = -2) : mm_Ret E qE_regionBeginning [.ref 0] 86 J G (some (.int (nI q))) 86 J G := by
  refine mm_Met.of qE_regionBeginning_ok (by decide) (mm_cats rfl) (Nat.le_of_ble_eq_true rfl) ?_
  refine mm_aload_n rfl rfl ?_
  refine mm_getR rfl rfl rfl (by decide) rfl (mm_gi hG 0 0 1 (by decide)) ?_
  refine mm_getR rfl rfl rfl (by decide) rfl (mm_gi hG 1 1 4 (by decide)) ?_
  refine mm_iconst (v := nI 4) rfl (by decide) ?_
  refine mm_rdN rfl (by decide) rfl (by decide) (by decide) (by decide) rfl hk ?_
  refine mm_istore_n rfl (by decide) ?_
  refine mm_iload_n rfl rfl ?_
  refine mm_bipush (v := -2) rfl (by decide) ?_
  refine mm_icmp_ne (tgt := 26) rfl (by decide) (fun h13 => ?_) (fun h13 => ?_)
  · exact absurd rfl h13
  · refine mm_aload_n rfl rfl ?_
    refine mm_getR rfl rfl rfl (by decide) rfl (mm_gi hG 0 0 1 (by decide)) ?_
    refine mm_getI (x := nI q) rfl rfl rfl (by decide) rfl hp ?_
    refine mm_goto (tgt := 37) rfl (by decide) ?_
    refine mm_ireturn rfl rfl rfl (by decide) (by decide) ?_
    exact ⟨rfl, rfl, rfl, rfl⟩
set_option maxRecDepth 100000 in
set_option maxHeartbeats 4000000 in
theorem sE_regionEnd1 {E : mm_E} {G : mm_G} {J : mm_J} (hG : mm_GI G) {q k : Nat} (hp : J 1 3 = nI q) (hq : q ≤ 100) (hk : J 4 4 = nI k) (hk2 : k ≤ 100) : mm_Ret E qE_regionEnd [.ref 0] 86 J G (some (.int (nI (max k q)))) 86 J G := by
  refine mm_Met.of qE_regionEnd_ok (by decide) (mm_cats rfl) (Nat.le_of_ble_eq_true rfl) ?_
  refine mm_aload_n rfl rfl ?_
  refine mm_getR rfl rfl rfl (by decide) rfl (mm_gi hG 0 0 1 (by decide)) ?_
  refine mm_getR rfl rfl rfl (by decide) rfl (mm_gi hG 1 1 4 (by decide)) ?_
  refine mm_iconst (v := nI 4) rfl (by decide) ?_
  refine mm_rdN rfl (by decide) rfl (by decide) (by decide) (by decide) rfl hk ?_
  refine mm_aload_n rfl rfl ?_
  refine mm_getR rfl rfl rfl (by decide) rfl (mm_gi hG 0 0 1 (by decide)) ?_
  refine mm_getI (x := nI q) rfl rfl rfl (by decide) rfl hp ?_
  refine mm_maxN (by omega) (by omega) rfl wd_305 wd_306 wd_10 wd_307 (by decide) (Nat.le_of_ble_eq_true rfl) (by decide) (by decide) ?_
  refine mm_ireturn rfl rfl rfl (by decide) (by decide) ?_
  exact ⟨rfl, rfl, rfl, rfl⟩
set_option maxRecDepth 100000 in
set_option maxHeartbeats 4000000 in
theorem sE_regionEnd0 {E : mm_E} {G : mm_G} {J : mm_J} (hG : mm_GI G) {q : Nat} (hp : J 1 3 = nI q) (hq : q ≤ 100) (hk : J 4 4 = -2) : mm_Ret E qE_regionEnd [.ref 0] 86 J G (some (.int (nI q))) 86 J G := by
  refine mm_Met.of qE_regionEnd_ok (by decide) (mm_cats rfl) (Nat.le_of_ble_eq_true rfl) ?_
  refine mm_aload_n rfl rfl ?_
  refine mm_getR rfl rfl rfl (by decide) rfl (mm_gi hG 0 0 1 (by decide)) ?_
  refine mm_getR rfl rfl rfl (by decide) rfl (mm_gi hG 1 1 4 (by decide)) ?_
  refine mm_iconst (v := nI 4) rfl (by decide) ?_
  refine mm_rdN rfl (by decide) rfl (by decide) (by decide) (by decide) rfl hk ?_
  refine mm_aload_n rfl rfl ?_
  refine mm_getR rfl rfl rfl (by decide) rfl (mm_gi hG 0 0 1 (by decide)) ?_
  refine mm_getI (x := nI q) rfl rfl rfl (by decide) rfl hp ?_
  refine mm_max rfl wd_305 wd_306 wd_10 wd_307 (by decide) (Nat.le_of_ble_eq_true rfl) (by decide) (by decide) ?_
  refine mm_ireturn rfl rfl rfl (by decide) (by decide) ?_
  exact ⟨by rw [if_pos (ed_m2 (by omega))], rfl, rfl, rfl⟩
set_option maxRecDepth 100000 in
set_option maxHeartbeats 4000000 in
theorem sE_kill0 {E : mm_E} {G : mm_G} {J : mm_J} {a b : Nat} {jo : Int32} (ha : a < 2 ^ 31) (hab : b ≤ a) : mm_Ret E qE_kill [.ref 0, .int (nI a), .int (nI b), .int jo] 86 J G (some (.int (-2))) 86 J G := by
  refine mm_Met.of qE_kill_ok (by decide) (mm_cats rfl) (Nat.le_of_ble_eq_true rfl) ?_
  refine mm_iload_n rfl rfl ?_
  refine mm_iload_n rfl rfl ?_
  refine mm_icmp_ltN (tgt := 8) rfl (by decide) (by omega) (by omega) (fun h2 => ?_) (fun h2 => ?_)
  · exact absurd h2 (by omega)
  · refine mm_bipush (v := -2) rfl (by decide) ?_
    refine mm_ireturn rfl rfl rfl (by decide) (by decide) ?_
    exact ⟨rfl, rfl, rfl, rfl⟩
set_option maxRecDepth 100000 in
set_option maxHeartbeats 4000000 in
theorem sE_kill1 {E : mm_E} {G : mm_G} {J : mm_J} (hG : mm_GI G) {n m : Nat} (hT : ed_TI J n m) {r0 : Nat} (g0 : G 7 0 = some r0) (e0 : mm_SH r0 = .inl 2) (h0 : 8 ≤ r0 ∧ r0 ≤ 14) {a b l : Nat} (hl : J r0 1 = nI l) (hab : a < b) (hb : b ≤ n) (hl2 : l + (b - a) ≤ 100) : mm_Ret E qE_kill [.ref 0, .int (nI a), .int (nI b), .int (nI 1)] 86 J G (some (.int (nI 0))) 86 (mm_set (ed_ed (mm_set (mm_set (mm_cp J 3 (r0 + 1) a l (b - a)) r0 1 (nI (l + (b - a)))) 67 1 (nI 0)) 67 n m a (b - a) 0) 1 3 (nI a)) G := by
  refine mm_Met.of qE_kill_ok (by decide) (mm_cats rfl) (Nat.le_of_ble_eq_true rfl) ?_
  have hn2 := hT.2.1
  refine mm_iload_n rfl rfl ?_
  refine mm_iload_n rfl rfl ?_
  refine mm_icmp_ltN (tgt := 8) rfl (by decide) (by omega) (by omega) (fun h2 => ?_) (fun h2 => ?_)
  · refine mm_aload_n rfl rfl ?_
    refine mm_getR rfl rfl rfl (by decide) rfl (mm_gi hG 0 1 6 (by decide)) ?_
    refine mm_aload_n rfl rfl ?_
    refine mm_getR rfl rfl rfl (by decide) rfl (mm_gi hG 0 0 1 (by decide)) ?_
    refine mm_getR rfl rfl rfl (by decide) rfl (mm_gi hG 1 0 2 (by decide)) ?_
    refine mm_iload_n rfl rfl ?_
    refine mm_iload_n rfl rfl ?_
    refine mm_iload_n rfl rfl ?_
    refine mm_isV4 (M2 := qK_take) wd_351 qK_take_k (by decide) (sK_take1 hG g0 e0 h0.1 hT.1 hn2 hl (by omega) hb hl2) rfl (by decide) (Nat.le_of_ble_eq_true rfl) (by decide) (by decide) rfl (by decide) ?_
    refine mm_aload_n rfl rfl ?_
    refine mm_getR rfl rfl rfl (by decide) rfl (mm_gi hG 0 6 67 (by decide)) ?_
    refine mm_isV0 (M2 := qL_clear) wd_222 qL_clear_k (by decide) (sL_clear hG rfl) rfl (by decide) (Nat.le_of_ble_eq_true rfl) (by decide) (by decide) rfl (by decide) ?_
    refine mm_aload_n rfl rfl ?_
    refine mm_getR rfl rfl rfl (by decide) rfl (mm_gi hG 0 2 16 (by decide)) ?_
    refine mm_aload_n rfl rfl ?_
    refine mm_getR rfl rfl rfl (by decide) rfl (mm_gi hG 0 0 1 (by decide)) ?_
    refine mm_iload_n rfl rfl ?_
    refine mm_iload_n rfl rfl ?_
    refine mm_iload_n rfl rfl ?_
    refine mm_isubN rfl (by omega) ?_
    refine mm_aload_n rfl rfl ?_
    refine mm_getR rfl rfl rfl (by decide) rfl (mm_gi hG 0 6 67 (by decide)) ?_
    refine mm_iconst (v := nI 0) rfl (by decide) ?_
    refine mm_isV5 (M2 := qH_edit) wd_240 qH_edit_k (by decide) (sH_ed1 (s := 0) (n := n) (m := m) hG rfl (by decide) (hT.fr (by funext j; simp [mm_set, mm_cp, show ¬ 2 = r0 by omega, show ¬ 2 = r0 + 1 by omega]) (by funext j; simp [mm_set, mm_cp, show ¬ 4 = r0 by omega, show ¬ 4 = r0 + 1 by omega]) (by funext j; simp [mm_set, mm_cp, show ¬ 5 = r0 by omega, show ¬ 5 = r0 + 1 by omega]) (by funext j; simp [mm_set, mm_cp, show ¬ 16 = r0 by omega, show ¬ 16 = r0 + 1 by omega])) (by simp [mm_set]) (by omega) (by omega) (by omega)) rfl (by decide) (Nat.le_of_ble_eq_true rfl) (by decide) (by decide) rfl (by decide) ?_
    refine mm_pop rfl rfl ?_
    refine mm_aload_n rfl rfl ?_
    refine mm_iload_n rfl rfl ?_
    refine mm_isV1 (M2 := qE_moveTo) wd_301 qE_moveTo_k (by decide) (sE_moveTo hG) rfl (by decide) (Nat.le_of_ble_eq_true rfl) (by decide) (by decide) rfl (by decide) ?_
    refine mm_ireturn rfl rfl rfl (by decide) (by decide) ?_
    exact ⟨rfl, rfl, rfl, rfl⟩
  · exact absurd h2 (by omega)
set_option maxRecDepth 100000 in
set_option maxHeartbeats 4000000 in
theorem sE_kill2 {E : mm_E} {G : mm_G} {J : mm_J} (hG : mm_GI G) {n m : Nat} (hT : ed_TI J n m) {r0 r1 r2 r3 : Nat} (g0 : G 7 0 = some r0) (g1 : G 7 1 = some r1) (g2 : G 7 2 = some r2) (g3 : G 7 3 = some r3) (e0 : mm_SH r0 = .inl 2) (e1 : mm_SH r1 = .inl 2) (e2 : mm_SH r2 = .inl 2) (e3 : mm_SH r3 = .inl 2) (h3 : 8 ≤ r3 ∧ r3 ≤ 14) {c : Nat} (hc : J 6 1 = nI c) (hc2 : c ≤ 4) {a b : Nat} (hab : a < b) (hb : b ≤ n) : mm_Ret E qE_kill [.ref 0, .int (nI a), .int (nI b), .int (nI 0)] 86 J G (some (.int (nI 0))) 86 (mm_set (ed_ed (mm_set (mm_set (mm_cp (mm_set (mm_set J r3 1 (nI 0)) 6 1 (nI (min (c + 1) 4))) 3 (r3 + 1) a 0 (b - a)) r3 1 (nI (0 + (b - a)))) 67 1 (nI 0)) 67 n m a (b - a) 0) 1 3 (nI a)) (mm_sg (mm_sg (mm_sg (mm_sg G 7 3 (some r2)) 7 2 (some r1)) 7 1 (some r0)) 7 0 (some r3)) := by
  refine mm_Met.of qE_kill_ok (by decide) (mm_cats rfl) (Nat.le_of_ble_eq_true rfl) ?_
  have hn2 := hT.2.1
  refine mm_iload_n rfl rfl ?_
  refine mm_iload_n rfl rfl ?_
  refine mm_icmp_ltN (tgt := 8) rfl (by decide) (by omega) (by omega) (fun h2 => ?_) (fun h2 => ?_)
  · refine mm_aload_n rfl rfl ?_
    refine mm_getR rfl rfl rfl (by decide) rfl (mm_gi hG 0 1 6 (by decide)) ?_
    refine mm_aload_n rfl rfl ?_
    refine mm_getR rfl rfl rfl (by decide) rfl (mm_gi hG 0 0 1 (by decide)) ?_
    refine mm_getR rfl rfl rfl (by decide) rfl (mm_gi hG 1 0 2 (by decide)) ?_
    refine mm_iload_n rfl rfl ?_
    refine mm_iload_n rfl rfl ?_
    refine mm_iload_n rfl rfl ?_
    refine mm_isV4 (M2 := qK_take) wd_351 qK_take_k (by decide) (sK_take0 hG g0 g1 g2 g3 e0 e1 e2 e3 h3.1 hc hc2 hT.1 hn2 (by omega) hb) rfl (by decide) (Nat.le_of_ble_eq_true rfl) (by decide) (by decide) rfl (by decide) ?_
    refine mm_aload_n rfl rfl ?_
    refine mm_getR rfl rfl rfl (by decide) rfl (mm_gi (mm_GI_sg (mm_GI_sg (mm_GI_sg (mm_GI_sg hG)))) 0 6 67 (by decide)) ?_
    refine mm_isV0 (M2 := qL_clear) wd_222 qL_clear_k (by decide) (sL_clear (mm_GI_sg (mm_GI_sg (mm_GI_sg (mm_GI_sg hG)))) rfl) rfl (by decide) (Nat.le_of_ble_eq_true rfl) (by decide) (by decide) rfl (by decide) ?_
    refine mm_aload_n rfl rfl ?_
    refine mm_getR rfl rfl rfl (by decide) rfl (mm_gi (mm_GI_sg (mm_GI_sg (mm_GI_sg (mm_GI_sg hG)))) 0 2 16 (by decide)) ?_
    refine mm_aload_n rfl rfl ?_
    refine mm_getR rfl rfl rfl (by decide) rfl (mm_gi (mm_GI_sg (mm_GI_sg (mm_GI_sg (mm_GI_sg hG)))) 0 0 1 (by decide)) ?_
    refine mm_iload_n rfl rfl ?_
    refine mm_iload_n rfl rfl ?_
    refine mm_iload_n rfl rfl ?_
    refine mm_isubN rfl (by omega) ?_
    refine mm_aload_n rfl rfl ?_
    refine mm_getR rfl rfl rfl (by decide) rfl (mm_gi (mm_GI_sg (mm_GI_sg (mm_GI_sg (mm_GI_sg hG)))) 0 6 67 (by decide)) ?_
    refine mm_iconst (v := nI 0) rfl (by decide) ?_
    refine mm_isV5 (M2 := qH_edit) wd_240 qH_edit_k (by decide) (sH_ed1 (s := 0) (n := n) (m := m) (mm_GI_sg (mm_GI_sg (mm_GI_sg (mm_GI_sg hG)))) rfl (by decide) (hT.fr (by funext j; simp [mm_set, mm_cp, show ¬ 2 = r3 by omega, show ¬ 2 = r3 + 1 by omega]) (by funext j; simp [mm_set, mm_cp, show ¬ 4 = r3 by omega, show ¬ 4 = r3 + 1 by omega]) (by funext j; simp [mm_set, mm_cp, show ¬ 5 = r3 by omega, show ¬ 5 = r3 + 1 by omega]) (by funext j; simp [mm_set, mm_cp, show ¬ 16 = r3 by omega, show ¬ 16 = r3 + 1 by omega])) (by simp [mm_set]) (by omega) (by omega) (by omega)) rfl (by decide) (Nat.le_of_ble_eq_true rfl) (by decide) (by decide) rfl (by decide) ?_
    refine mm_pop rfl rfl ?_
    refine mm_aload_n rfl rfl ?_
    refine mm_iload_n rfl rfl ?_
    refine mm_isV1 (M2 := qE_moveTo) wd_301 qE_moveTo_k (by decide) (sE_moveTo (mm_GI_sg (mm_GI_sg (mm_GI_sg (mm_GI_sg hG))))) rfl (by decide) (Nat.le_of_ble_eq_true rfl) (by decide) (by decide) rfl (by decide) ?_
    refine mm_ireturn rfl rfl rfl (by decide) (by decide) ?_
    exact ⟨rfl, rfl, rfl, rfl⟩
  · exact absurd h2 (by omega)
set_option maxRecDepth 100000 in
set_option maxHeartbeats 4000000 in
theorem sE_copy0 {E : mm_E} {G : mm_G} {J : mm_J} {a b : Nat} (ha : a < 2 ^ 31) (hab : b ≤ a) : mm_Ret E qE_copy [.ref 0, .int (nI a), .int (nI b)] 86 J G (some (.int (-2))) 86 J G := by
  refine mm_Met.of qE_copy_ok (by decide) (mm_cats rfl) (Nat.le_of_ble_eq_true rfl) ?_
  refine mm_iload_n rfl rfl ?_
  refine mm_iload_n rfl rfl ?_
  refine mm_icmp_ltN (tgt := 8) rfl (by decide) (by omega) (by omega) (fun h2 => ?_) (fun h2 => ?_)
  · exact absurd h2 (by omega)
  · refine mm_bipush (v := -2) rfl (by decide) ?_
    refine mm_ireturn rfl rfl rfl (by decide) (by decide) ?_
    exact ⟨rfl, rfl, rfl, rfl⟩
set_option maxRecDepth 100000 in
set_option maxHeartbeats 4000000 in
theorem sE_copy1 {E : mm_E} {G : mm_G} {J : mm_J} (hG : mm_GI G) {n m : Nat} (hT : ed_TI J n m) {r0 r1 r2 r3 : Nat} (g0 : G 7 0 = some r0) (g1 : G 7 1 = some r1) (g2 : G 7 2 = some r2) (g3 : G 7 3 = some r3) (e0 : mm_SH r0 = .inl 2) (e1 : mm_SH r1 = .inl 2) (e2 : mm_SH r2 = .inl 2) (e3 : mm_SH r3 = .inl 2) (h3 : 8 ≤ r3 ∧ r3 ≤ 14) {c : Nat} (hc : J 6 1 = nI c) (hc2 : c ≤ 4) {a b : Nat} (hab : a < b) (hb : b ≤ n) : mm_Ret E qE_copy [.ref 0, .int (nI a), .int (nI b)] 86 J G (some (.int (nI 0))) 86 (mm_set (mm_cp (mm_set (mm_set J r3 1 (nI 0)) 6 1 (nI (min (c + 1) 4))) 3 (r3 + 1) a 0 (b - a)) r3 1 (nI (0 + (b - a)))) (mm_sg (mm_sg (mm_sg (mm_sg G 7 3 (some r2)) 7 2 (some r1)) 7 1 (some r0)) 7 0 (some r3)) := by
  refine mm_Met.of qE_copy_ok (by decide) (mm_cats rfl) (Nat.le_of_ble_eq_true rfl) ?_
  have hn2 := hT.2.1
  refine mm_iload_n rfl rfl ?_
  refine mm_iload_n rfl rfl ?_
  refine mm_icmp_ltN (tgt := 8) rfl (by decide) (by omega) (by omega) (fun h2 => ?_) (fun h2 => ?_)
  · refine mm_aload_n rfl rfl ?_
    refine mm_getR rfl rfl rfl (by decide) rfl (mm_gi hG 0 1 6 (by decide)) ?_
    refine mm_aload_n rfl rfl ?_
    refine mm_getR rfl rfl rfl (by decide) rfl (mm_gi hG 0 0 1 (by decide)) ?_
    refine mm_getR rfl rfl rfl (by decide) rfl (mm_gi hG 1 0 2 (by decide)) ?_
    refine mm_iload_n rfl rfl ?_
    refine mm_iload_n rfl rfl ?_
    refine mm_iconst (v := nI 0) rfl (by decide) ?_
    refine mm_isV4 (M2 := qK_take) wd_351 qK_take_k (by decide) (sK_take0 hG g0 g1 g2 g3 e0 e1 e2 e3 h3.1 hc hc2 hT.1 hn2 (by omega) hb) rfl (by decide) (Nat.le_of_ble_eq_true rfl) (by decide) (by decide) rfl (by decide) ?_
    refine mm_iconst (v := nI 0) rfl (by decide) ?_
    refine mm_ireturn rfl rfl rfl (by decide) (by decide) ?_
    exact ⟨rfl, rfl, rfl, rfl⟩
  · exact absurd h2 (by omega)
set_option maxRecDepth 100000 in
set_option maxHeartbeats 4000000 in
theorem sE_putKillN {E : mm_E} {G : mm_G} {J : mm_J} {p : Int32} : mm_Ret E qE_putKill [.ref 0, .int (-2), .int p] 86 J G (some (.int (-2))) 86 J G := by
  refine mm_Met.of qE_putKill_ok (by decide) (mm_cats rfl) (Nat.le_of_ble_eq_true rfl) ?_
  refine mm_iload_n rfl rfl ?_
  refine mm_if_lt (tgt := 15) rfl (by decide) (fun h1 => ?_) (fun h1 => ?_)
  · refine mm_bipush (v := -2) rfl (by decide) ?_
    refine mm_ireturn rfl rfl rfl (by decide) (by decide) ?_
    exact ⟨rfl, rfl, rfl, rfl⟩
  · exact absurd (by decide) h1
set_option maxRecDepth 100000 in
set_option maxHeartbeats 4000000 in
theorem sE_putKill0 {E : mm_E} {G : mm_G} {J : mm_J} (hG : mm_GI G) {c k : Nat} (hc : J 6 1 = nI c) (hc2 : c ≤ 4) {p : Int32} (hk : c ≤ k) (hk2 : k ≤ 4) : mm_Ret E qE_putKill [.ref 0, .int (nI k), .int p] 86 J G (some (.int (-2))) 86 J G := by
  refine mm_Met.of qE_putKill_ok (by decide) (mm_cats rfl) (Nat.le_of_ble_eq_true rfl) ?_
  refine mm_iload_n rfl rfl ?_
  refine mm_if_ltN (tgt := 15) rfl (by decide) (by omega) ?_
  refine mm_iload_n rfl rfl ?_
  refine mm_aload_n rfl rfl ?_
  refine mm_getR rfl rfl rfl (by decide) rfl (mm_gi hG 0 1 6 (by decide)) ?_
  refine mm_getI (x := nI c) rfl rfl rfl (by decide) rfl hc ?_
  refine mm_icmp_ltN (tgt := 18) rfl (by decide) (by omega) (by omega) (fun h12 => ?_) (fun h12 => ?_)
  · exact absurd h12 (by omega)
  · refine mm_bipush (v := -2) rfl (by decide) ?_
    refine mm_ireturn rfl rfl rfl (by decide) (by decide) ?_
    exact ⟨rfl, rfl, rfl, rfl⟩
set_option maxRecDepth 100000 in
set_option maxHeartbeats 4000000 in
theorem sE_putKill1 {E : mm_E} {G : mm_G} {J : mm_J} (hG : mm_GI G) {n m : Nat} (hT : ed_TI J n m) {c k r p d s q : Nat} (hc : J 6 1 = nI c) (hc2 : c ≤ 4) (hk : k < c) (hg : G 7 k = some r) (hr : mm_SH r = .inl 2) (hrr : 8 ≤ r ∧ r ≤ 14) (hs : J r 1 = nI s) (hs2 : s ≤ 100) (hp : J 1 3 = nI q) (hpd : p + d = q) (hq : q ≤ n) (h : 100 < n - d + s) : mm_Ret E qE_putKill [.ref 0, .int (nI k), .int (nI p)] 86 J G (some (.int (-3))) 86 J G := by
  refine mm_Met.of qE_putKill_ok (by decide) (mm_cats rfl) (Nat.le_of_ble_eq_true rfl) ?_
  have hn2 := hT.2.1
  obtain rfl : d = q - p := by omega
  refine mm_iload_n rfl rfl ?_
  refine mm_if_ltN (tgt := 15) rfl (by decide) (by omega) ?_
  refine mm_iload_n rfl rfl ?_
  refine mm_aload_n rfl rfl ?_
  refine mm_getR rfl rfl rfl (by decide) rfl (mm_gi hG 0 1 6 (by decide)) ?_
  refine mm_getI (x := nI c) rfl rfl rfl (by decide) rfl hc ?_
  refine mm_icmp_ltN (tgt := 18) rfl (by decide) (by omega) (by omega) (fun h12 => ?_) (fun h12 => ?_)
  · refine mm_aload_n rfl rfl ?_
    refine mm_getR rfl rfl rfl (by decide) rfl (mm_gi hG 0 1 6 (by decide)) ?_
    refine mm_getR rfl rfl rfl (by decide) rfl (mm_gi hG 6 0 7 (by decide)) ?_
    refine mm_iload_n rfl rfl ?_
    refine mm_rrN rfl (by decide) rfl rfl (by decide) (by omega) (by decide) hg rfl ?_
    refine mm_astore_n rfl (by decide) ?_
    refine mm_aload_n rfl rfl ?_
    refine mm_getR rfl rfl rfl (by decide) rfl (mm_gi hG 0 2 16 (by decide)) ?_
    refine mm_aload_n rfl rfl ?_
    refine mm_getR rfl rfl rfl (by decide) rfl (mm_gi hG 0 0 1 (by decide)) ?_
    refine mm_iload_n rfl rfl ?_
    refine mm_aload_n rfl rfl ?_
    refine mm_getR rfl rfl rfl (by decide) rfl (mm_gi hG 0 0 1 (by decide)) ?_
    refine mm_getI (x := nI q) rfl rfl rfl (by decide) rfl hp ?_
    refine mm_iload_n rfl rfl ?_
    refine mm_isubN rfl (by omega) ?_
    refine mm_aload_n rfl rfl ?_
    refine mm_iconst (v := nI 0) rfl (by decide) ?_
    refine mm_isV5 (M2 := qH_edit) wd_240 qH_edit_k (by decide) (sH_edit0 hG hr hT.1 hn2 hs hs2 (by omega) h) rfl (by decide) (Nat.le_of_ble_eq_true rfl) (by decide) (by decide) rfl (by decide) ?_
    refine mm_bipush (v := -3) rfl (by decide) ?_
    refine mm_icmp_ne (tgt := 59) rfl (by decide) (fun h53 => ?_) (fun h53 => ?_)
    · exact absurd rfl h53
    · refine mm_bipush (v := -3) rfl (by decide) ?_
      refine mm_ireturn rfl rfl rfl (by decide) (by decide) ?_
      exact ⟨rfl, rfl, rfl, rfl⟩
  · exact absurd h12 (by omega)
set_option maxRecDepth 100000 in
set_option maxHeartbeats 4000000 in
theorem sE_putKill2 {E : mm_E} {G : mm_G} {J : mm_J} (hG : mm_GI G) {n m : Nat} (hT : ed_TI J n m) {c k r p d s q : Nat} (hc : J 6 1 = nI c) (hc2 : c ≤ 4) (hk : k < c) (hg : G 7 k = some r) (hr : mm_SH r = .inl 2) (hrr : 8 ≤ r ∧ r ≤ 14) (hs : J r 1 = nI s) (hs2 : s ≤ 100) (hp : J 1 3 = nI q) (hpd : p + d = q) (hq : q ≤ n) (h : n - d + s ≤ 100) : mm_Ret E qE_putKill [.ref 0, .int (nI k), .int (nI p)] 86 J G (some (.int (nI 0))) 86 (mm_set (mm_set (mm_set (ed_ed J r n m p d s) 0 10 (nI k)) 1 3 (nI (p + s))) 4 4 (nI p)) G := by
  refine mm_Met.of qE_putKill_ok (by decide) (mm_cats rfl) (Nat.le_of_ble_eq_true rfl) ?_
  have hn2 := hT.2.1
  obtain rfl : d = q - p := by omega
  refine mm_iload_n rfl rfl ?_
  refine mm_if_ltN (tgt := 15) rfl (by decide) (by omega) ?_
  refine mm_iload_n rfl rfl ?_
  refine mm_aload_n rfl rfl ?_
  refine mm_getR rfl rfl rfl (by decide) rfl (mm_gi hG 0 1 6 (by decide)) ?_
  refine mm_getI (x := nI c) rfl rfl rfl (by decide) rfl hc ?_
  refine mm_icmp_ltN (tgt := 18) rfl (by decide) (by omega) (by omega) (fun h12 => ?_) (fun h12 => ?_)
  · refine mm_aload_n rfl rfl ?_
    refine mm_getR rfl rfl rfl (by decide) rfl (mm_gi hG 0 1 6 (by decide)) ?_
    refine mm_getR rfl rfl rfl (by decide) rfl (mm_gi hG 6 0 7 (by decide)) ?_
    refine mm_iload_n rfl rfl ?_
    refine mm_rrN rfl (by decide) rfl rfl (by decide) (by omega) (by decide) hg rfl ?_
    refine mm_astore_n rfl (by decide) ?_
    refine mm_aload_n rfl rfl ?_
    refine mm_getR rfl rfl rfl (by decide) rfl (mm_gi hG 0 2 16 (by decide)) ?_
    refine mm_aload_n rfl rfl ?_
    refine mm_getR rfl rfl rfl (by decide) rfl (mm_gi hG 0 0 1 (by decide)) ?_
    refine mm_iload_n rfl rfl ?_
    refine mm_aload_n rfl rfl ?_
    refine mm_getR rfl rfl rfl (by decide) rfl (mm_gi hG 0 0 1 (by decide)) ?_
    refine mm_getI (x := nI q) rfl rfl rfl (by decide) rfl hp ?_
    refine mm_iload_n rfl rfl ?_
    refine mm_isubN rfl (by omega) ?_
    refine mm_aload_n rfl rfl ?_
    refine mm_iconst (v := nI 0) rfl (by decide) ?_
    refine mm_isV5 (M2 := qH_edit) wd_240 qH_edit_k (by decide) (sH_ed1 hG hr (by omega) hT hs hs2 (by omega) h) rfl (by decide) (Nat.le_of_ble_eq_true rfl) (by decide) (by decide) rfl (by decide) ?_
    refine mm_bipush (v := -3) rfl (by decide) ?_
    refine mm_icmp_ne (tgt := 59) rfl (by decide) (fun h53 => ?_) (fun h53 => ?_)
    · refine mm_aload_n rfl rfl ?_
      refine mm_iload_n rfl rfl ?_
      refine mm_putI rfl rfl rfl (by decide) rfl (Or.inl rfl) rfl rfl ?_
      refine mm_aload_n rfl rfl ?_
      refine mm_getR rfl rfl rfl (by decide) rfl (mm_gi hG 0 0 1 (by decide)) ?_
      refine mm_iload_n rfl rfl ?_
      refine mm_aload_n rfl rfl ?_
      refine mm_getI (x := nI s) rfl rfl hr (mm_l1 hr) rfl (by simp [mm_set, show ¬ r = 0 by omega, ed_ed_o (show ¬ r = 2 ∧ ¬ r = 3 ∧ ¬ r = 4 ∧ ¬ (16 ≤ r ∧ r < 60) by omega), hs]) ?_
      refine mm_iaddN rfl ?_
      refine mm_putI rfl rfl rfl (by decide) rfl (Or.inl rfl) rfl rfl ?_
      refine mm_aload_n rfl rfl ?_
      refine mm_iload_n rfl rfl ?_
      refine mm_isV1 (M2 := qE_setMark) wd_378 qE_setMark_k (by decide) (sE_setMark hG) rfl (by decide) (Nat.le_of_ble_eq_true rfl) (by decide) (by decide) rfl (by decide) ?_
      refine mm_ireturn rfl rfl rfl (by decide) (by decide) ?_
      exact ⟨rfl, rfl, rfl, rfl⟩
    · exact absurd h53 (by decide)
  · exact absurd h12 (by omega)
