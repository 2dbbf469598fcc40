theorem mm_cp_t (J : mm_J) (a b : Nat) (sp dp i : Nat) : mm_set (mm_cp J a b sp dp i) b (dp + i) (J a (sp + i)) = mm_cp J a b sp dp (i + 1) := by
  funext x y
  unfold mm_set mm_cp va_cpy
  by_cases hx : x = b
  · subst hx
    by_cases hy : y = dp + i
    · subst hy
      simp
    · by_cases h : dp ≤ y ∧ y < dp + i
      · simp [hy, h, show y < dp + (i + 1) by omega]
      · simp [hy, h, show ¬ (dp ≤ y ∧ y < dp + (i + 1)) by omega]
  · simp [hx]
set_option maxRecDepth 100000 in
set_option maxHeartbeats 4000000 in
theorem lR_undo {E : mm_E} {G : mm_G} {J : mm_J} (hG : mm_GI G) {u k a tk : Nat} {F : mm_F} (hk20 : k < 20) (htk : J 69 4 = nI tk) (ha : J 79 k = nI a) (hat : a + tk ≤ 100) (kk : mm_Go E qR_undo 97 [some (.ref 69), some (.int (nI u)), some (.int (nI k)), some (.int (nI tk)), none] [] 86 (mm_cp J 77 72 (k * 100 + a) 0 tk) G 0 0 F) : ∀ (q i : Nat), tk - i = q → i ≤ tk → mm_Go E qR_undo 59 [some (.ref 69), some (.int (nI u)), some (.int (nI k)), some (.int (nI i)), none] [] 86 (mm_cp J 77 72 (k * 100 + a) 0 i) G 0 0 F
  | 0, i, hq, hi => by
    refine mm_iload_n rfl rfl ?_
    refine mm_aload_n rfl rfl ?_
    refine mm_getI (x := nI tk) rfl rfl rfl (by decide) rfl (by simp [mm_cp, htk]) ?_
    refine mm_icmp_geN (tgt := 97) rfl (by decide) (by omega) (by omega) (fun h64 => ?_) (fun h64 => ?_)
    · obtain rfl : tk = i := by omega
      exact kk
    · exact absurd h64 (by omega)
  | q + 1, i, hq, hi => by
    refine mm_iload_n rfl rfl ?_
    refine mm_aload_n rfl rfl ?_
    refine mm_getI (x := nI tk) rfl rfl rfl (by decide) rfl (by simp [mm_cp, htk]) ?_
    refine mm_icmp_geN (tgt := 97) rfl (by decide) (by omega) (by omega) (fun h64 => ?_) (fun h64 => ?_)
    · exact absurd h64 (by omega)
    · refine mm_aload_n rfl rfl ?_
      refine mm_getR rfl rfl rfl (by decide) rfl (mm_gi hG 69 2 72 (by decide)) ?_
      refine mm_iload_n rfl rfl ?_
      refine mm_aload_n rfl rfl ?_
      refine mm_getR rfl rfl rfl (by decide) rfl (mm_gi hG 69 18 77 (by decide)) ?_
      refine mm_iload_n rfl rfl ?_
      refine mm_bipush (v := nI 100) rfl (by decide) ?_
      refine mm_imulN rfl ?_
      refine mm_aload_n rfl rfl ?_
      refine mm_getR rfl rfl rfl (by decide) rfl (mm_gi hG 69 20 79 (by decide)) ?_
      refine mm_iload_n rfl rfl ?_
      refine mm_rdN (x := nI a) rfl (by decide) rfl (by decide) hk20 (by decide) rfl (by simp [mm_cp, ha]) ?_
      refine mm_iaddN rfl ?_
      refine mm_iload_n rfl rfl ?_
      refine mm_iaddN rfl ?_
      refine mm_rdN (x := J 77 (k * 100 + a + i)) rfl (by decide) rfl (by decide) (by omega) (by decide) rfl (by simp [mm_cp]) ?_
      refine mm_wrN rfl (by decide) rfl (by decide) (by omega) (by decide) rfl ?_
      refine mm_iincN rfl rfl (mm_inc1 _) (by decide) ?_
      refine mm_goto (tgt := 59) rfl (by decide) ?_
      have e := mm_cp_t J 77 72 (k * 100 + a) 0 i
      rw [Nat.zero_add] at e
      rw [e]
      exact lR_undo hG hk20 htk ha hat kk q (i + 1) (by omega) (by omega)
set_option maxRecDepth 100000 in
set_option maxHeartbeats 400000 in
theorem lR_undo0 {E : mm_E} {G : mm_G} {J : mm_J} (hG : mm_GI G) {n m : Nat} (hT : ed_RB J n m) {u : Nat} (h : u = 0 ∨ u + 20 ≤ m) (hum : u ≤ m) : mm_Go E qR_undo 22 [some (.ref 69), none, none, none, none] [.int (nI u)] 86 J G 0 0 (mm_Fm E qR_undo (mm_is (some (.int (-2))) 86 J G)) := by
  have hm2 := hT.2.2.2.2.2.2
  refine mm_istore_n rfl (by decide) ?_
  refine mm_iload_n rfl rfl ?_
  refine mm_iconst (v := nI 1) rfl (by decide) ?_
  refine mm_icmp_ltN (tgt := 39) rfl (by decide) (by omega) (by omega) (fun h25 => ?_) (fun h25 => ?_)
  · refine mm_bipush (v := -2) rfl (by decide) ?_
    refine mm_ireturn rfl rfl rfl (by decide) (by decide) ?_
    exact ⟨rfl, rfl, rfl, rfl⟩
  · refine mm_iload_n rfl rfl ?_
    refine mm_aload_n rfl rfl ?_
    refine mm_getI (x := nI m) rfl rfl rfl (by decide) rfl hT.2.2.2.2.2.1 ?_
    refine mm_bipush (v := nI 20) rfl (by decide) ?_
    refine mm_isub rfl ?_
    refine mm_icmp_gt (tgt := 42) rfl (by decide) (fun h36 => ?_) (fun h36 => ?_)
    · exact absurd (ed_k2 (by omega) (by omega) (by omega)) (Int32.not_le.mpr h36)
    · refine mm_bipush (v := -2) rfl (by decide) ?_
      refine mm_ireturn rfl rfl rfl (by decide) (by decide) ?_
      exact ⟨rfl, rfl, rfl, rfl⟩
set_option maxRecDepth 100000 in
set_option maxHeartbeats 400000 in
theorem lR_undo1 {E : mm_E} {G : mm_G} {J : mm_J} (hG : mm_GI G) {n m : Nat} (hT : ed_RB J n m) {u a pu tk : Nat} (h1 : 1 ≤ u) (h2 : u ≤ m) (h3 : m < u + 20) (ha : J 79 (u % 20) = nI a) (hpu : J 81 (u % 20) = nI pu) (htk : J 80 (u % 20) = nI tk) (hat : a + tk ≤ 100) (hap : a + pu ≤ n) (hnt : n - pu + tk ≤ 100) : mm_Go E qR_undo 22 [some (.ref 69), none, none, none, none] [.int (nI u)] 86 J G 0 0 (mm_Fm E qR_undo (mm_is (some (.int (nI 0))) 86 (mm_set (mm_set (ed_RS (mm_cp (mm_set J 69 4 (nI tk)) 77 72 (u % 20 * 100 + a) 0 tk) n m a pu tk) 69 5 (nI (a + tk))) 69 24 (nI u)) G)) := by
  have hm2 := hT.2.2.2.2.2.2
  have hn2 := hT.2.1
  have hk20 : u % 20 < 20 := ed_mod
  refine mm_istore_n rfl (by decide) ?_
  refine mm_iload_n rfl rfl ?_
  refine mm_iconst (v := nI 1) rfl (by decide) ?_
  refine mm_icmp_ltN (tgt := 39) rfl (by decide) (by omega) (by omega) (fun h25 => ?_) (fun h25 => ?_)
  · exact absurd h25 (by omega)
  · refine mm_iload_n rfl rfl ?_
    refine mm_aload_n rfl rfl ?_
    refine mm_getI (x := nI m) rfl rfl rfl (by decide) rfl hT.2.2.2.2.2.1 ?_
    refine mm_bipush (v := nI 20) rfl (by decide) ?_
    refine mm_isub rfl ?_
    refine mm_icmp_gt (tgt := 42) rfl (by decide) (fun h36 => ?_) (fun h36 => ?_)
    · refine mm_iload_n rfl rfl ?_
      refine mm_bipush (v := nI 20) rfl (by decide) ?_
      refine mm_iremN rfl (by omega) (by omega) (by omega) ?_
      refine mm_istore_n rfl (by decide) ?_
      refine mm_aload_n rfl rfl ?_
      refine mm_aload_n rfl rfl ?_
      refine mm_getR rfl rfl rfl (by decide) rfl (mm_gi hG 69 21 80 (by decide)) ?_
      refine mm_iload_n rfl rfl ?_
      refine mm_rdN (x := nI tk) rfl (by decide) rfl (by decide) ed_mod (by decide) rfl htk ?_
      refine mm_putI rfl rfl rfl (by decide) rfl (Or.inl rfl) rfl rfl ?_
      refine mm_iconst (v := nI 0) rfl (by decide) ?_
      refine mm_istore_n rfl (by decide) ?_
      refine mm_J_eq (mm_cp_0 _ 77 72 (u % 20 * 100 + a) 0).symm (lR_undo (J := mm_set J 69 4 (nI tk)) hG hk20 (by simp [mm_set]) (by simp [mm_set, ha]) hat ?_ tk 0 rfl (by omega))
      refine mm_aload_n rfl rfl ?_
      refine mm_getR rfl rfl rfl (by decide) rfl (mm_gi hG 69 20 79 (by decide)) ?_
      refine mm_iload_n rfl rfl ?_
      refine mm_rdN (x := nI a) rfl (by decide) rfl (by decide) ed_mod (by decide) rfl (by simp [mm_set, mm_cp, ha]) ?_
      refine mm_istore_n rfl (by decide) ?_
      refine mm_aload_n rfl rfl ?_
      refine mm_getR rfl rfl rfl (by decide) rfl (mm_gi hG 69 22 81 (by decide)) ?_
      refine mm_iload_n rfl rfl ?_
      refine mm_rdN (x := nI pu) rfl (by decide) rfl (by decide) ed_mod (by decide) rfl (by simp [mm_set, mm_cp, hpu]) ?_
      refine mm_istore rfl (by decide) ?_
      refine mm_aload_n rfl rfl ?_
      refine mm_iload_n rfl rfl ?_
      refine mm_iload rfl rfl ?_
      refine mm_isV2 (M2 := qR_step) wd_645 qR_step_k (by decide) (sR_step (J := (mm_cp (mm_set J 69 4 (nI tk)) 77 72 (u % 20 * 100 + a) 0 tk)) (s := tk) hG (hT.ri (fun k hk => by simp [mm_set, mm_cp, hk]) rfl rfl (by simp [mm_set, mm_cp]) (by omega)) hap hnt) rfl (by decide) (Nat.le_of_ble_eq_true rfl) (by decide) (by decide) rfl (by decide) ?_
      refine mm_aload_n rfl rfl ?_
      refine mm_iload_n rfl rfl ?_
      refine mm_aload_n rfl rfl ?_
      refine mm_getI (x := nI tk) rfl rfl rfl (by decide) rfl ((ed_RS_f (by decide)).trans (by simp [mm_set, mm_cp])) ?_
      refine mm_iaddN rfl ?_
      refine mm_putI rfl rfl rfl (by decide) rfl (Or.inl rfl) rfl rfl ?_
      refine mm_aload_n rfl rfl ?_
      refine mm_iload_n rfl rfl ?_
      refine mm_putI rfl rfl rfl (by decide) rfl (Or.inl rfl) rfl rfl ?_
      refine mm_iconst (v := nI 0) rfl (by decide) ?_
      refine mm_ireturn rfl rfl rfl (by decide) (by decide) ?_
      exact ⟨rfl, rfl, rfl, rfl⟩
    · exact absurd (Int32.not_le.mp (ed_k1 (by omega) (by omega) h3)) h36
set_option maxRecDepth 100000 in
set_option maxHeartbeats 4000000 in
theorem sR_undo0 {E : mm_E} {G : mm_G} {J : mm_J} (hG : mm_GI G) {n m : Nat} (hT : ed_RB J n m) {u : Nat} (hu : (J 69 8 = nI 19 ∧ J 69 24 = nI (u + 1)) ∨ (¬ J 69 8 = nI 19 ∧ u = m)) (h : u = 0 ∨ u + 20 ≤ m) (hum : u ≤ m) : mm_Ret E qR_undo [.ref 69] 86 J G (some (.int (-2))) 86 J G := by
  refine mm_Met.of qR_undo_ok (by decide) (mm_cats rfl) (Nat.le_of_ble_eq_true rfl) ?_
  have hm2 := hT.2.2.2.2.2.2
  refine mm_aload_n rfl rfl ?_
  refine mm_getI rfl rfl rfl (by decide) rfl rfl ?_
  refine mm_bipush (v := nI 19) rfl (by decide) ?_
  refine mm_icmp_ne (tgt := 18) rfl (by decide) (fun h6 => ?_) (fun h6 => ?_)
  · obtain rfl : m = u := (hu.elim (fun q => absurd q.1 h6) (fun q => q.2)).symm
    refine mm_aload_n rfl rfl ?_
    refine mm_getI (x := nI m) rfl rfl rfl (by decide) rfl hT.2.2.2.2.2.1 ?_
    exact lR_undo0 hG hT h hum
  · have hun := hu.elim (fun q => q.2) (fun q => absurd h6 q.1)
    refine mm_aload_n rfl rfl ?_
    refine mm_getI (x := nI (u + 1)) rfl rfl rfl (by decide) rfl hun ?_
    refine mm_iconst (v := nI 1) rfl (by decide) ?_
    refine mm_isubN rfl (by omega) ?_
    refine mm_goto (tgt := 22) rfl (by decide) ?_
    rw [Nat.add_sub_cancel]
    exact lR_undo0 hG hT h hum
set_option maxRecDepth 100000 in
set_option maxHeartbeats 4000000 in
theorem sR_undo1 {E : mm_E} {G : mm_G} {J : mm_J} (hG : mm_GI G) {n m : Nat} (hT : ed_RB J n m) {u a pu tk : Nat} (h1 : 1 ≤ u) (h2 : u ≤ m) (h3 : m < u + 20) (ha : J 79 (u % 20) = nI a) (hpu : J 81 (u % 20) = nI pu) (htk : J 80 (u % 20) = nI tk) (hat : a + tk ≤ 100) (hap : a + pu ≤ n) (hnt : n - pu + tk ≤ 100) (hu : (J 69 8 = nI 19 ∧ J 69 24 = nI (u + 1)) ∨ (¬ J 69 8 = nI 19 ∧ u = m)) : mm_Ret E qR_undo [.ref 69] 86 J G (some (.int (nI 0))) 86 (mm_set (mm_set (ed_RS (mm_cp (mm_set J 69 4 (nI tk)) 77 72 (u % 20 * 100 + a) 0 tk) n m a pu tk) 69 5 (nI (a + tk))) 69 24 (nI u)) G := by
  refine mm_Met.of qR_undo_ok (by decide) (mm_cats rfl) (Nat.le_of_ble_eq_true rfl) ?_
  have hm2 := hT.2.2.2.2.2.2
  refine mm_aload_n rfl rfl ?_
  refine mm_getI rfl rfl rfl (by decide) rfl rfl ?_
  refine mm_bipush (v := nI 19) rfl (by decide) ?_
  refine mm_icmp_ne (tgt := 18) rfl (by decide) (fun h6 => ?_) (fun h6 => ?_)
  · obtain rfl : m = u := (hu.elim (fun q => absurd q.1 h6) (fun q => q.2)).symm
    refine mm_aload_n rfl rfl ?_
    refine mm_getI (x := nI m) rfl rfl rfl (by decide) rfl hT.2.2.2.2.2.1 ?_
    exact lR_undo1 hG hT h1 h2 h3 ha hpu htk hat hap hnt
  · have hun := hu.elim (fun q => q.2) (fun q => absurd h6 q.1)
    refine mm_aload_n rfl rfl ?_
    refine mm_getI (x := nI (u + 1)) rfl rfl rfl (by decide) rfl hun ?_
    refine mm_iconst (v := nI 1) rfl (by decide) ?_
    refine mm_isubN rfl (by omega) ?_
    refine mm_goto (tgt := 22) rfl (by decide) ?_
    rw [Nat.add_sub_cancel]
    exact lR_undo1 hG hT h1 h2 h3 ha hpu htk hat hap hnt
set_option maxRecDepth 100000 in
set_option maxHeartbeats 4000000 in
theorem lR_yank {E : mm_E} {G : mm_G} {J : mm_J} (hG : mm_GI G) {a d k s : Nat} {F : mm_F} (hk4 : k < 4) (hs : J 69 4 = nI s) (hs2 : s ≤ 100) (kk : mm_Go E qR_yank 68 [some (.ref 69), some (.int (nI a)), some (.int (nI d)), some (.int (nI k)), some (.int (nI s))] [] 86 (mm_cp J 75 72 (k * 100) 0 s) G 0 0 F) : ∀ (q i : Nat), s - i = q → i ≤ s → mm_Go E qR_yank 34 [some (.ref 69), some (.int (nI a)), some (.int (nI d)), some (.int (nI k)), some (.int (nI i))] [] 86 (mm_cp J 75 72 (k * 100) 0 i) G 0 0 F
  | 0, i, hq, hi => by
    refine mm_iload rfl rfl ?_
    refine mm_aload_n rfl rfl ?_
    refine mm_getI (x := nI s) rfl rfl rfl (by decide) rfl (by simp [mm_cp, hs]) ?_
    refine mm_icmp_geN (tgt := 68) rfl (by decide) (by omega) (by omega) (fun h40 => ?_) (fun h40 => ?_)
    · obtain rfl : s = i := by omega
      exact kk
    · exact absurd h40 (by omega)
  | q + 1, i, hq, hi => by
    refine mm_iload rfl rfl ?_
    refine mm_aload_n rfl rfl ?_
    refine mm_getI (x := nI s) rfl rfl rfl (by decide) rfl (by simp [mm_cp, hs]) ?_
    refine mm_icmp_geN (tgt := 68) rfl (by decide) (by omega) (by omega) (fun h40 => ?_) (fun h40 => ?_)
    · exact absurd h40 (by omega)
    · refine mm_aload_n rfl rfl ?_
      refine mm_getR rfl rfl rfl (by decide) rfl (mm_gi hG 69 2 72 (by decide)) ?_
      refine mm_iload rfl rfl ?_
      refine mm_aload_n rfl rfl ?_
      refine mm_getR rfl rfl rfl (by decide) rfl (mm_gi hG 69 12 75 (by decide)) ?_
      refine mm_iload_n rfl rfl ?_
      refine mm_bipush (v := nI 100) rfl (by decide) ?_
      refine mm_imulN rfl ?_
      refine mm_iload rfl rfl ?_
      refine mm_iaddN rfl ?_
      refine mm_rdN (x := J 75 (k * 100 + i)) rfl (by decide) rfl (by decide) (by omega) (by decide) rfl (by simp [mm_cp]) ?_
      refine mm_wrN rfl (by decide) rfl (by decide) (by omega) (by decide) rfl ?_
      refine mm_iincN rfl rfl (mm_inc1 _) (by decide) ?_
      refine mm_goto (tgt := 34) rfl (by decide) ?_
      have e := mm_cp_t J 75 72 (k * 100) 0 i
      rw [Nat.zero_add] at e
      rw [e]
      exact lR_yank hG hk4 hs hs2 kk q (i + 1) (by omega) (by omega)
set_option maxRecDepth 100000 in
set_option maxHeartbeats 4000000 in
theorem sR_yank0 {E : mm_E} {G : mm_G} {J : mm_J} (hG : mm_GI G) {n m : Nat} (hT : ed_RB J n m) {a d k s : Nat} (hk4 : k < 4) (hs : J 76 k = nI s) (hs2 : s ≤ 100) (had : a + d ≤ n) (h : 100 < n - d + s) : mm_Ret E qR_yank [.ref 69, .int (nI a), .int (nI d), .int (nI k)] 86 J G (some (.int (-3))) 86 J G := by
  refine mm_Met.of qR_yank_ok (by decide) (mm_cats rfl) (Nat.le_of_ble_eq_true rfl) ?_
  have hn2 := hT.2.1
  refine mm_aload_n rfl rfl ?_
  refine mm_getI (x := nI n) rfl rfl rfl (by decide) rfl hT.1 ?_
  refine mm_iload_n rfl rfl ?_
  refine mm_isubN rfl (by omega) ?_
  refine mm_aload_n rfl rfl ?_
  refine mm_getR rfl rfl rfl (by decide) rfl (mm_gi hG 69 13 76 (by decide)) ?_
  refine mm_iload_n rfl rfl ?_
  refine mm_rdN rfl (by decide) rfl (by decide) (by omega) (by decide) rfl hs ?_
  refine mm_iaddN rfl ?_
  refine mm_bipush (v := nI 100) rfl (by decide) ?_
  refine mm_icmp_leN (tgt := 21) rfl (by decide) (by omega) (by omega) (fun h15 => ?_) (fun h15 => ?_)
  · exact absurd h15 (by omega)
  · refine mm_bipush (v := -3) rfl (by decide) ?_
    refine mm_ireturn rfl rfl rfl (by decide) (by decide) ?_
    exact ⟨rfl, rfl, rfl, rfl⟩
set_option maxRecDepth 100000 in
set_option maxHeartbeats 4000000 in
theorem sR_yank1 {E : mm_E} {G : mm_G} {J : mm_J} (hG : mm_GI G) {n m : Nat} (hT : ed_RB J n m) {a d k s : Nat} (hk4 : k < 4) (hs : J 76 k = nI s) (hs2 : s ≤ 100) (had : a + d ≤ n) (h : n - d + s ≤ 100) : mm_Ret E qR_yank [.ref 69, .int (nI a), .int (nI d), .int (nI k)] 86 J G (some (.int (nI 0))) 86 (mm_set (mm_set (mm_set (mm_set (mm_set (ed_RS (mm_cp (mm_set J 69 4 (nI s)) 75 72 (k * 100) 0 s) n m a d s) 69 5 (nI (a + s))) 69 6 (nI a)) 69 15 (nI a)) 69 16 (nI s)) 69 17 (nI k)) G := by
  refine mm_Met.of qR_yank_ok (by decide) (mm_cats rfl) (Nat.le_of_ble_eq_true rfl) ?_
  have hn2 := hT.2.1
  refine mm_aload_n rfl rfl ?_
  refine mm_getI (x := nI n) rfl rfl rfl (by decide) rfl hT.1 ?_
  refine mm_iload_n rfl rfl ?_
  refine mm_isubN rfl (by omega) ?_
  refine mm_aload_n rfl rfl ?_
  refine mm_getR rfl rfl rfl (by decide) rfl (mm_gi hG 69 13 76 (by decide)) ?_
  refine mm_iload_n rfl rfl ?_
  refine mm_rdN rfl (by decide) rfl (by decide) (by omega) (by decide) rfl hs ?_
  refine mm_iaddN rfl ?_
  refine mm_bipush (v := nI 100) rfl (by decide) ?_
  refine mm_icmp_leN (tgt := 21) rfl (by decide) (by omega) (by omega) (fun h15 => ?_) (fun h15 => ?_)
  · refine mm_aload_n rfl rfl ?_
    refine mm_aload_n rfl rfl ?_
    refine mm_getR rfl rfl rfl (by decide) rfl (mm_gi hG 69 13 76 (by decide)) ?_
    refine mm_iload_n rfl rfl ?_
    refine mm_rdN rfl (by decide) rfl (by decide) (by omega) (by decide) rfl hs ?_
    refine mm_putI rfl rfl rfl (by decide) rfl (Or.inl rfl) rfl rfl ?_
    refine mm_iconst (v := nI 0) rfl (by decide) ?_
    refine mm_istore rfl (by decide) ?_
    refine mm_J_eq (mm_cp_0 _ 75 72 (k * 100) 0).symm (lR_yank (J := mm_set J 69 4 (nI s)) hG hk4 (by simp [mm_set]) hs2 ?_ s 0 rfl (by omega))
    refine mm_aload_n rfl rfl ?_
    refine mm_iload_n rfl rfl ?_
    refine mm_iload_n rfl rfl ?_
    refine mm_isV2 (M2 := qR_step) wd_645 qR_step_k (by decide) (sR_step (J := (mm_cp (mm_set J 69 4 (nI s)) 75 72 (k * 100) 0 s)) (s := s) hG (hT.ri (fun k hk => by simp [mm_set, mm_cp, hk]) rfl rfl (by simp [mm_set, mm_cp]) hs2) had h) rfl (by decide) (Nat.le_of_ble_eq_true rfl) (by decide) (by decide) rfl (by decide) ?_
    refine mm_aload_n rfl rfl ?_
    refine mm_iload_n rfl rfl ?_
    refine mm_aload_n rfl rfl ?_
    refine mm_getI (x := nI s) rfl rfl rfl (by decide) rfl ((ed_RS_f (by decide)).trans (by simp [mm_set, mm_cp])) ?_
    refine mm_iaddN rfl ?_
    refine mm_putI rfl rfl rfl (by decide) rfl (Or.inl rfl) rfl rfl ?_
    refine mm_aload_n rfl rfl ?_
    refine mm_iload_n rfl rfl ?_
    refine mm_putI rfl rfl rfl (by decide) rfl (Or.inl rfl) rfl rfl ?_
    refine mm_aload_n rfl rfl ?_
    refine mm_iload_n rfl rfl ?_
    refine mm_putI rfl rfl rfl (by decide) rfl (Or.inl rfl) rfl rfl ?_
    refine mm_aload_n rfl rfl ?_
    refine mm_aload_n rfl rfl ?_
    refine mm_getI (x := nI s) rfl rfl rfl (by decide) rfl (by simp only [mm_set]; simp; exact (ed_RS_f (by decide)).trans (by simp [mm_set, mm_cp])) ?_
    refine mm_putI rfl rfl rfl (by decide) rfl (Or.inl rfl) rfl rfl ?_
    refine mm_aload_n rfl rfl ?_
    refine mm_iload_n rfl rfl ?_
    refine mm_putI rfl rfl rfl (by decide) rfl (Or.inl rfl) rfl rfl ?_
    refine mm_iconst (v := nI 0) rfl (by decide) ?_
    refine mm_ireturn rfl rfl rfl (by decide) (by decide) ?_
    exact ⟨rfl, rfl, rfl, rfl⟩
  · exact absurd h15 (by omega)
set_option maxRecDepth 100000 in
set_option maxHeartbeats 4000000 in
theorem lR_srI {E : mm_E} {G : mm_G} {J : mm_J} (hG : mm_GI G) {n l : Nat} (hn : J 69 3 = nI n) (hn2 : n ≤ 100) (hl : J 76 0 = nI l) (hl2 : l ≤ 100) {p : Nat} {F : mm_F} (hpl : p + l ≤ n) (kk : mm_Go E qR_search 69 [some (.ref 69), some (.int (nI p)), some (.int (nI (ed_b (ed_at (J 70) (J 75) p l)))), some (.int (nI l))] [] 86 J G 0 0 F) : ∀ (q i : Nat), l - i = q → i ≤ l → mm_Go E qR_search 34 [some (.ref 69), some (.int (nI p)), some (.int (nI (ed_b (ed_at (J 70) (J 75) p i)))), some (.int (nI i))] [] 86 J G 0 0 F
  | 0, i, hq, hi => by
    refine mm_iload_n rfl rfl ?_
    refine mm_aload_n rfl rfl ?_
    refine mm_getR rfl rfl rfl (by decide) rfl (mm_gi hG 69 13 76 (by decide)) ?_
    refine mm_iconst (v := nI 0) rfl (by decide) ?_
    refine mm_rdN rfl (by decide) rfl (by decide) (by decide) (by decide) rfl hl ?_
    refine mm_icmp_geN (tgt := 69) rfl (by decide) (by omega) (by omega) (fun h41 => ?_) (fun h41 => ?_)
    · obtain rfl : l = i := by omega
      exact kk
    · exact absurd h41 (by omega)
  | q + 1, i, hq, hi => by
    refine mm_iload_n rfl rfl ?_
    refine mm_aload_n rfl rfl ?_
    refine mm_getR rfl rfl rfl (by decide) rfl (mm_gi hG 69 13 76 (by decide)) ?_
    refine mm_iconst (v := nI 0) rfl (by decide) ?_
    refine mm_rdN rfl (by decide) rfl (by decide) (by decide) (by decide) rfl hl ?_
    refine mm_icmp_geN (tgt := 69) rfl (by decide) (by omega) (by omega) (fun h41 => ?_) (fun h41 => ?_)
    · exact absurd h41 (by omega)
    · refine mm_aload_n rfl rfl ?_
      refine mm_getR rfl rfl rfl (by decide) rfl (mm_gi hG 69 0 70 (by decide)) ?_
      refine mm_iload_n rfl rfl ?_
      refine mm_iload_n rfl rfl ?_
      refine mm_iaddN rfl ?_
      refine mm_rdN rfl (by decide) rfl (by decide) (by omega) (by decide) rfl rfl ?_
      refine mm_aload_n rfl rfl ?_
      refine mm_getR rfl rfl rfl (by decide) rfl (mm_gi hG 69 12 75 (by decide)) ?_
      refine mm_iload_n rfl rfl ?_
      refine mm_rdN rfl (by decide) rfl (by decide) (by omega) (by decide) rfl rfl ?_
      refine mm_icmp_eq (tgt := 63) rfl (by decide) (fun h58 => ?_) (fun h58 => ?_)
      · refine mm_iincN rfl rfl (mm_inc1 _) (by decide) ?_
        refine mm_goto (tgt := 34) rfl (by decide) ?_
        have K := lR_srI (E := E) hG hn hn2 hl hl2 hpl kk q (i + 1) (by omega) (by omega)
        rw [ed_at_s, decide_eq_true h58, Bool.and_true] at K
        exact K
      · refine mm_iconst (v := nI 0) rfl (by decide) ?_
        refine mm_istore_n rfl (by decide) ?_
        refine mm_iincN rfl rfl (mm_inc1 _) (by decide) ?_
        refine mm_goto (tgt := 34) rfl (by decide) ?_
        have K := lR_srI (E := E) hG hn hn2 hl hl2 hpl kk q (i + 1) (by omega) (by omega)
        rw [ed_at_s, decide_eq_false h58, Bool.and_false] at K
        exact K
def ed_srK (J : mm_J) (l : Nat) : Option Nat → mm_J
  | none => J
  | some q => mm_set J 69 5 (nI (q + l))
set_option maxRecDepth 100000 in
set_option maxHeartbeats 4000000 in
theorem lR_search {E : mm_E} {G : mm_G} {J : mm_J} (hG : mm_GI G) {n l : Nat} (hn : J 69 3 = nI n) (hn2 : n ≤ 100) (hl : J 76 0 = nI l) (hl2 : l ≤ 100) : ∀ (k p : Nat) (z1 z2 : Option Value), n + 1 - (p + l) = k → p ≤ 101 → mm_Go E qR_search 15 [some (.ref 69), some (.int (nI p)), z1, z2] [] 86 J G 0 0 (mm_Fm E qR_search (mm_is (some (.int (ed_srR (ed_sr (J 70) (J 75) l k p)))) 86 (ed_srK J l (ed_sr (J 70) (J 75) l k p)) G))
  | 0, p, z1, z2, hk, hp => by
    refine mm_iload_n rfl rfl ?_
    refine mm_aload_n rfl rfl ?_
    refine mm_getR rfl rfl rfl (by decide) rfl (mm_gi hG 69 13 76 (by decide)) ?_
    refine mm_iconst (v := nI 0) rfl (by decide) ?_
    refine mm_rdN rfl (by decide) rfl (by decide) (by decide) (by decide) rfl hl ?_
    refine mm_iaddN rfl ?_
    refine mm_aload_n rfl rfl ?_
    refine mm_getI (x := nI n) rfl rfl rfl (by decide) rfl hn ?_
    refine mm_icmp_gtN (tgt := 96) rfl (by decide) (by omega) (by omega) (fun h27 => ?_) (fun h27 => ?_)
    · refine mm_bipush (v := -2) rfl (by decide) ?_
      refine mm_ireturn rfl rfl rfl (by decide) (by decide) ?_
      exact ⟨rfl, rfl, rfl, rfl⟩
    · exact absurd h27 (by omega)
  | k + 1, p, z1, z2, hk, hp => by
    refine mm_iload_n rfl rfl ?_
    refine mm_aload_n rfl rfl ?_
    refine mm_getR rfl rfl rfl (by decide) rfl (mm_gi hG 69 13 76 (by decide)) ?_
    refine mm_iconst (v := nI 0) rfl (by decide) ?_
    refine mm_rdN rfl (by decide) rfl (by decide) (by decide) (by decide) rfl hl ?_
    refine mm_iaddN rfl ?_
    refine mm_aload_n rfl rfl ?_
    refine mm_getI (x := nI n) rfl rfl rfl (by decide) rfl hn ?_
    refine mm_icmp_gtN (tgt := 96) rfl (by decide) (by omega) (by omega) (fun h27 => ?_) (fun h27 => ?_)
    · exact absurd h27 (by omega)
    · refine mm_iconst (v := nI 1) rfl (by decide) ?_
      refine mm_istore_n rfl (by decide) ?_
      refine mm_iconst (v := nI 0) rfl (by decide) ?_
      refine mm_istore_n rfl (by decide) ?_
      refine lR_srI hG hn hn2 hl hl2 h27 ?_ l 0 rfl (by omega)
      refine mm_iload_n rfl rfl ?_
      refine mm_if_neN (tgt := 76) rfl (by decide) (ed_b31 _) (fun h70 => ?_) (fun h70 => ?_)
      · rw [show ed_sr (J 70) (J 75) l (k + 1) p = some p from by rw [ed_sr, if_pos (ed_bne h70)]]
        refine mm_aload_n rfl rfl ?_
        refine mm_iload_n rfl rfl ?_
        refine mm_aload_n rfl rfl ?_
        refine mm_getR rfl rfl rfl (by decide) rfl (mm_gi hG 69 13 76 (by decide)) ?_
        refine mm_iconst (v := nI 0) rfl (by decide) ?_
        refine mm_rdN rfl (by decide) rfl (by decide) (by decide) (by decide) rfl hl ?_
        refine mm_iaddN rfl ?_
        refine mm_putI rfl rfl rfl (by decide) rfl (Or.inl rfl) rfl rfl ?_
        refine mm_iconst (v := nI 0) rfl (by decide) ?_
        refine mm_ireturn rfl rfl rfl (by decide) (by decide) ?_
        exact ⟨rfl, rfl, rfl, rfl⟩
      · rw [show ed_sr (J 70) (J 75) l (k + 1) p = ed_sr (J 70) (J 75) l k (p + 1) from by rw [ed_sr, if_neg (by rw [ed_beq h70]; decide)]]
        refine mm_goto (tgt := 90) rfl (by decide) ?_
        refine mm_iincN rfl rfl (mm_inc1 _) (by decide) ?_
        refine mm_goto (tgt := 15) rfl (by decide) ?_
        exact lR_search hG hn hn2 hl hl2 k (p + 1) _ _ (by omega) (by omega)
set_option maxRecDepth 100000 in
set_option maxHeartbeats 4000000 in
theorem sR_search0 {E : mm_E} {G : mm_G} {J : mm_J} (hc : J 69 14 = nI 0) : mm_Ret E qR_search [.ref 69] 86 J G (some (.int (-2))) 86 J G := by
  refine mm_Met.of qR_search_ok (by decide) (mm_cats rfl) (Nat.le_of_ble_eq_true rfl) ?_
  refine mm_aload_n rfl rfl ?_
  refine mm_getI (x := nI 0) rfl rfl rfl (by decide) rfl hc ?_
  refine mm_if_neN (tgt := 10) rfl (by decide) (by decide) (fun h4 => ?_) (fun h4 => ?_)
  · exact absurd rfl h4
  · refine mm_bipush (v := -2) rfl (by decide) ?_
    refine mm_ireturn rfl rfl rfl (by decide) (by decide) ?_
    exact ⟨rfl, rfl, rfl, rfl⟩
set_option maxRecDepth 100000 in
set_option maxHeartbeats 4000000 in
theorem sR_search1 {E : mm_E} {G : mm_G} {J : mm_J} (hG : mm_GI G) {n l : Nat} (hn : J 69 3 = nI n) (hn2 : n ≤ 100) (hl : J 76 0 = nI l) (hl2 : l ≤ 100) {c q : Nat} (hc : J 69 14 = nI c) (hc1 : 0 < c) (hc2 : c ≤ 4) (hp : J 69 5 = nI q) (hq : q ≤ n) : mm_Ret E qR_search [.ref 69] 86 J G (some (.int (ed_srR (ed_sr (J 70) (J 75) l (n + 1 - (q + l)) q)))) 86 (ed_srK J l (ed_sr (J 70) (J 75) l (n + 1 - (q + l)) q)) G := by
  refine mm_Met.of qR_search_ok (by decide) (mm_cats rfl) (Nat.le_of_ble_eq_true rfl) ?_
  refine mm_aload_n rfl rfl ?_
  refine mm_getI (x := nI c) rfl rfl rfl (by decide) rfl hc ?_
  refine mm_if_neN (tgt := 10) rfl (by decide) (by omega) (fun h4 => ?_) (fun h4 => ?_)
  · refine mm_aload_n rfl rfl ?_
    refine mm_getI (x := nI q) rfl rfl rfl (by decide) rfl hp ?_
    refine mm_istore_n rfl (by decide) ?_
    exact lR_search hG hn hn2 hl hl2 _ q none none rfl (by omega)
  · exact absurd h4 (by omega)
