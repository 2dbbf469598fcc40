set_option maxRecDepth 100000 in
set_option maxHeartbeats 4000000 in
theorem lE_insert {E : mm_E} {G : mm_G} {J : mm_J} (hG : mm_GI G) {t : Nat} {c : Int32} {F : mm_F} (ht : J 0 7 = nI t) (ht9 : t ≤ 9) (kk : mm_Go E qE_insert 31 [some (.ref 0), some (.int c), some (.int (nI t))] [] 86 (ed_fill J c t) G 0 0 F) : ∀ (k i : Nat), t - i = k → i ≤ t → mm_Go E qE_insert 9 [some (.ref 0), some (.int c), some (.int (nI i))] [] 86 (ed_fill J c i) G 0 0 F
  | 0, i, hk, hi => by
    refine mm_iload_n rfl rfl ?_
    refine mm_aload_n rfl rfl ?_
    refine mm_getI (x := nI t) rfl rfl rfl (by decide) rfl (by rw [ed_fill_o J c (by decide)]; exact ht) ?_
    refine mm_icmp_geN (tgt := 31) rfl (by decide) (by omega) (by omega) (fun h14 => ?_) (fun h14 => ?_)
    · rw [show i = t by omega]
      exact kk
    · exact absurd h14 (by omega)
  | k + 1, i, hk, hi => by
    refine mm_iload_n rfl rfl ?_
    refine mm_aload_n rfl rfl ?_
    refine mm_getI (x := nI t) rfl rfl rfl (by decide) rfl (by rw [ed_fill_o J c (by decide)]; exact ht) ?_
    refine mm_icmp_geN (tgt := 31) rfl (by decide) (by omega) (by omega) (fun h14 => ?_) (fun h14 => ?_)
    · exact absurd h14 (by omega)
    · refine mm_aload_n rfl rfl ?_
      refine mm_getR rfl rfl rfl (by decide) rfl (mm_gi hG 0 6 67 (by decide)) ?_
      refine mm_iload_n rfl rfl ?_
      refine mm_isV1 (M2 := qL_add) wd_226 qL_add_k (by decide) (sL_add hG rfl (ed_fill_n J c i) (by omega)) rfl (by decide) (Nat.le_of_ble_eq_true rfl) (by decide) (by decide) rfl (by decide) ?_
      refine mm_iincN rfl rfl (mm_inc1 _) (by decide) ?_
      refine mm_goto (tgt := 9) rfl (by decide) ?_
      exact lE_insert hG ht ht9 kk k (i + 1) (by omega) (by omega)
set_option maxRecDepth 100000 in
set_option maxHeartbeats 4000000 in
theorem lE_insF {E : mm_E} {G : mm_G} {J : mm_J} (hG : mm_GI G) {n m : Nat} (hT : ed_TI J n m) {q t : Nat} {c : Int32} {z : Option Value} (ht9 : t ≤ 9) (hp : J 1 3 = nI q) (hq : q ≤ n) {jo : Nat} (h : 100 < n + t) : mm_Go E qE_insert 57 [some (.ref 0), some (.int c), z] [.int (nI jo)] 86 (ed_fill J c t) G 0 0 (mm_Fm E qE_insert (mm_is (some (.int (-3))) 86 (ed_fill J c t) G)) := by
  have hn2 := hT.2.1
  have hfp : ed_fill J c t 1 3 = nI q := by rw [ed_fill_o J c (by decide)]; exact hp
  refine mm_istore_n rfl (by decide) ?_
  refine mm_aload_n rfl rfl ?_
  refine mm_getR rfl rfl rfl (by decide) rfl (mm_gi hG 0 2 16 (by decide)) ?_
  refine mm_aload_n rfl rfl ?_
  refine mm_getR rfl rfl rfl (by decide) rfl (mm_gi hG 0 0 1 (by decide)) ?_
  refine mm_aload_n rfl rfl ?_
  refine mm_getR rfl rfl rfl (by decide) rfl (mm_gi hG 0 0 1 (by decide)) ?_
  refine mm_getI (x := nI q) rfl rfl rfl (by decide) rfl hfp ?_
  refine mm_iconst (v := nI 0) rfl (by decide) ?_
  refine mm_aload_n rfl rfl ?_
  refine mm_getR rfl rfl rfl (by decide) rfl (mm_gi hG 0 6 67 (by decide)) ?_
  refine mm_iload_n rfl rfl ?_
  refine mm_isV5 (M2 := qH_edit) wd_240 qH_edit_k (by decide) (sH_edit0 (s := t) hG rfl (hT.fill c t).1 hn2 (ed_fill_n J c t) (by omega) (by omega) (by omega)) rfl (by decide) (Nat.le_of_ble_eq_true rfl) (by decide) (by decide) rfl (by decide) ?_
  refine mm_bipush (v := -3) rfl (by decide) ?_
  refine mm_icmp_ne (tgt := 90) rfl (by decide) (fun h84 => ?_) (fun h84 => ?_)
  · exact absurd rfl h84
  · refine mm_bipush (v := -3) rfl (by decide) ?_
    refine mm_ireturn rfl rfl rfl (by decide) (by decide) ?_
    exact ⟨rfl, rfl, rfl, rfl⟩
set_option maxRecDepth 100000 in
set_option maxHeartbeats 4000000 in
theorem lE_insN {E : mm_E} {G : mm_G} {J : mm_J} (hG : mm_GI G) {n m : Nat} (hT : ed_TI J n m) {q t : Nat} {c : Int32} {z : Option Value} (ht9 : t ≤ 9) (hp : J 1 3 = nI q) (hq : q ≤ n) (h : n + t ≤ 100) : mm_Go E qE_insert 57 [some (.ref 0), some (.int c), z] [.int (nI 0)] 86 (ed_fill J c t) G 0 0 (mm_Fm E qE_insert (mm_is (some (.int (nI 0))) 86 (mm_set (mm_set (mm_set (ed_ed (ed_fill J c t) 67 n m q 0 t) 1 3 (nI (q + t))) 0 8 (nI 100)) 0 7 (nI 1)) G)) := by
  have hn2 := hT.2.1
  have hfp : ed_fill J c t 1 3 = nI q := by rw [ed_fill_o J c (by decide)]; exact hp
  refine mm_istore_n rfl (by decide) ?_
  refine mm_aload_n rfl rfl ?_
  refine mm_getR rfl rfl rfl (by decide) rfl (mm_gi hG 0 2 16 (by decide)) ?_
  refine mm_aload_n rfl rfl ?_
  refine mm_getR rfl rfl rfl (by decide) rfl (mm_gi hG 0 0 1 (by decide)) ?_
  refine mm_aload_n rfl rfl ?_
  refine mm_getR rfl rfl rfl (by decide) rfl (mm_gi hG 0 0 1 (by decide)) ?_
  refine mm_getI (x := nI q) rfl rfl rfl (by decide) rfl hfp ?_
  refine mm_iconst (v := nI 0) rfl (by decide) ?_
  refine mm_aload_n rfl rfl ?_
  refine mm_getR rfl rfl rfl (by decide) rfl (mm_gi hG 0 6 67 (by decide)) ?_
  refine mm_iload_n rfl rfl ?_
  refine mm_isV5 (M2 := qH_edit) wd_240 qH_edit_k (by decide) (sH_ed1 (s := t) hG rfl (by decide) (hT.fill c t) (ed_fill_n J c t) (by omega) (by omega) (by omega)) rfl (by decide) (Nat.le_of_ble_eq_true rfl) (by decide) (by decide) rfl (by decide) ?_
  refine mm_bipush (v := -3) rfl (by decide) ?_
  refine mm_icmp_ne (tgt := 90) rfl (by decide) (fun h84 => ?_) (fun h84 => ?_)
  · refine mm_aload_n rfl rfl ?_
    refine mm_getR rfl rfl rfl (by decide) rfl (mm_gi hG 0 0 1 (by decide)) ?_
    refine mm_dup rfl rfl ?_
    refine mm_getI (x := nI q) rfl rfl rfl (by decide) rfl ((ed_ed_o (by decide)).trans hfp) ?_
    refine mm_aload_n rfl rfl ?_
    refine mm_getR rfl rfl rfl (by decide) rfl (mm_gi hG 0 6 67 (by decide)) ?_
    refine mm_getI (x := nI t) rfl rfl rfl (by decide) rfl ((ed_ed_o (by decide)).trans (ed_fill_n J c t)) ?_
    refine mm_iaddN rfl ?_
    refine mm_putI rfl rfl rfl (by decide) rfl (Or.inl rfl) rfl rfl ?_
    refine mm_aload_n rfl rfl ?_
    refine mm_bipush (v := nI 100) rfl (by decide) ?_
    refine mm_isV1 (M2 := qE_finish) wd_264 qE_finish_k (by decide) sE_finish rfl (by decide) (Nat.le_of_ble_eq_true rfl) (by decide) (by decide) rfl (by decide) ?_
    refine mm_iconst (v := nI 0) rfl (by decide) ?_
    refine mm_ireturn rfl rfl rfl (by decide) (by decide) ?_
    exact ⟨rfl, rfl, rfl, rfl⟩
  · exact absurd h84 (by decide)
set_option maxRecDepth 100000 in
set_option maxHeartbeats 4000000 in
theorem lE_insJ {E : mm_E} {G : mm_G} {J : mm_J} (hG : mm_GI G) {n m : Nat} (hT : ed_TI J n m) {q t : Nat} {c : Int32} {z : Option Value} (ht9 : t ≤ 9) (hp : J 1 3 = nI q) (hq : q ≤ n) (h : n + t ≤ 100) {u : Nat} (hu : J 18 (m % 20) = nI u) : mm_Go E qE_insert 57 [some (.ref 0), some (.int c), z] [.int (nI 1)] 86 (ed_fill J c t) G 0 0 (mm_Fm E qE_insert (mm_is (some (.int (nI 0))) 86 (mm_set (mm_set (mm_set (ed_rp (mm_set (ed_fill J c t) 18 (m % 20) (nI (u + t))) 67 n q 0 t) 1 3 (nI (q + t))) 0 8 (nI 100)) 0 7 (nI 1)) G)) := by
  have hn2 := hT.2.1
  have hfp : ed_fill J c t 1 3 = nI q := by rw [ed_fill_o J c (by decide)]; exact hp
  refine mm_istore_n rfl (by decide) ?_
  refine mm_aload_n rfl rfl ?_
  refine mm_getR rfl rfl rfl (by decide) rfl (mm_gi hG 0 2 16 (by decide)) ?_
  refine mm_aload_n rfl rfl ?_
  refine mm_getR rfl rfl rfl (by decide) rfl (mm_gi hG 0 0 1 (by decide)) ?_
  refine mm_aload_n rfl rfl ?_
  refine mm_getR rfl rfl rfl (by decide) rfl (mm_gi hG 0 0 1 (by decide)) ?_
  refine mm_getI (x := nI q) rfl rfl rfl (by decide) rfl hfp ?_
  refine mm_iconst (v := nI 0) rfl (by decide) ?_
  refine mm_aload_n rfl rfl ?_
  refine mm_getR rfl rfl rfl (by decide) rfl (mm_gi hG 0 6 67 (by decide)) ?_
  refine mm_iload_n rfl rfl ?_
  refine mm_isV5 (M2 := qH_edit) wd_240 qH_edit_k (by decide) (sH_edit2 (s := t) (q := u) hG rfl (hT.fill c t).1 hn2 (ed_fill_n J c t) (by omega) (by omega) (by decide) (by omega) (hT.fill c t).2.2.1 (hT.fill c t).2.2.2.1 (hT.fill c t).2.2.2.2.1 hT.2.2.2.2.2 (by rw [ed_fill_o J c (by decide)]; exact hu)) rfl (by decide) (Nat.le_of_ble_eq_true rfl) (by decide) (by decide) rfl (by decide) ?_
  refine mm_bipush (v := -3) rfl (by decide) ?_
  refine mm_icmp_ne (tgt := 90) rfl (by decide) (fun h84 => ?_) (fun h84 => ?_)
  · refine mm_aload_n rfl rfl ?_
    refine mm_getR rfl rfl rfl (by decide) rfl (mm_gi hG 0 0 1 (by decide)) ?_
    refine mm_dup rfl rfl ?_
    refine mm_getI (x := nI q) rfl rfl rfl (by decide) rfl ((ed_rp_o (by decide)).trans (by simp [mm_set]; exact hfp)) ?_
    refine mm_aload_n rfl rfl ?_
    refine mm_getR rfl rfl rfl (by decide) rfl (mm_gi hG 0 6 67 (by decide)) ?_
    refine mm_getI (x := nI t) rfl rfl rfl (by decide) rfl ((ed_rp_o (by decide)).trans (by simp [mm_set]; exact (ed_fill_n J c t))) ?_
    refine mm_iaddN rfl ?_
    refine mm_putI rfl rfl rfl (by decide) rfl (Or.inl rfl) rfl rfl ?_
    refine mm_aload_n rfl rfl ?_
    refine mm_bipush (v := nI 100) rfl (by decide) ?_
    refine mm_isV1 (M2 := qE_finish) wd_264 qE_finish_k (by decide) sE_finish rfl (by decide) (Nat.le_of_ble_eq_true rfl) (by decide) (by decide) rfl (by decide) ?_
    refine mm_iconst (v := nI 0) rfl (by decide) ?_
    refine mm_ireturn rfl rfl rfl (by decide) (by decide) ?_
    exact ⟨rfl, rfl, rfl, rfl⟩
  · exact absurd h84 (by decide)
set_option maxRecDepth 100000 in
set_option maxHeartbeats 4000000 in
theorem sE_insert0 {E : mm_E} {G : mm_G} {J : mm_J} (hG : mm_GI G) {n m : Nat} (hT : ed_TI J n m) {q t : Nat} {c : Int32} (ht : J 0 7 = nI t) (ht9 : t ≤ 9) (hp : J 1 3 = nI q) (hq : q ≤ n) {u : Nat} (hu : J 0 8 = nI 100 → J 18 (m % 20) = nI u) (hu2 : u ≤ 100) (h : 100 < n + t) : mm_Ret E qE_insert [.ref 0, .int c] 86 J G (some (.int (-3))) 86 (ed_fill J c t) G := by
  refine mm_Met.of qE_insert_ok (by decide) (mm_cats rfl) (Nat.le_of_ble_eq_true rfl) ?_
  refine mm_aload_n rfl rfl ?_
  refine mm_getR rfl rfl rfl (by decide) rfl (mm_gi hG 0 6 67 (by decide)) ?_
  refine mm_isV0 (M2 := qL_clear) wd_222 qL_clear_k (by decide) (sL_clear hG rfl) rfl (by decide) (Nat.le_of_ble_eq_true rfl) (by decide) (by decide) rfl (by decide) ?_
  refine mm_iconst (v := nI 0) rfl (by decide) ?_
  refine mm_istore_n rfl (by decide) ?_
  refine lE_insert hG ht ht9 ?_ t 0 rfl (Nat.zero_le _)
  refine mm_aload_n rfl rfl ?_
  refine mm_getI (x := J 0 8) rfl rfl rfl (by decide) rfl (by rw [ed_fill_o J c (by decide)]) ?_
  refine mm_bipush (v := nI 100) rfl (by decide) ?_
  refine mm_icmp_ne (tgt := 56) rfl (by decide) (fun h37 => ?_) (fun h37 => ?_)
  · refine mm_iconst (v := nI 0) rfl (by decide) ?_
    exact lE_insF hG hT ht9 hp hq h
  · refine mm_aload_n rfl rfl ?_
    refine mm_getR rfl rfl rfl (by decide) rfl (mm_gi hG 0 2 16 (by decide)) ?_
    refine mm_isV0 (M2 := qH_latestPut) wd_230 qH_latestPut_k (by decide) (sH_latestPut (q := u) hG (hT.fill c t).2.2.2.2.1 (by have := hT.2.2.2.2.2; omega) (by rw [ed_fill_o J c (by decide)]; exact hu h37)) rfl (by decide) (Nat.le_of_ble_eq_true rfl) (by decide) (by decide) rfl (by decide) ?_
    refine mm_bipush (v := nI 7) rfl (by decide) ?_
    refine mm_icmp_gtN (tgt := 56) rfl (by decide) (by omega) (by omega) (fun h49 => ?_) (fun h49 => ?_)
    · refine mm_iconst (v := nI 0) rfl (by decide) ?_
      exact lE_insF hG hT ht9 hp hq h
    · refine mm_iconst (v := nI 1) rfl (by decide) ?_
      refine mm_goto (tgt := 57) rfl (by decide) ?_
      exact lE_insF hG hT ht9 hp hq h
set_option maxRecDepth 100000 in
set_option maxHeartbeats 4000000 in
theorem sE_insert1 {E : mm_E} {G : mm_G} {J : mm_J} (hG : mm_GI G) {n m : Nat} (hT : ed_TI J n m) {q t : Nat} {c : Int32} (ht : J 0 7 = nI t) (ht9 : t ≤ 9) (hp : J 1 3 = nI q) (hq : q ≤ n) {u : Nat} (hu : J 0 8 = nI 100 → J 18 (m % 20) = nI u) (hu2 : u ≤ 100) (h : n + t ≤ 100) (hj : ¬ (J 0 8 = nI 100 ∧ u ≤ 7)) : mm_Ret E qE_insert [.ref 0, .int c] 86 J G (some (.int (nI 0))) 86 (mm_set (mm_set (mm_set (ed_ed (ed_fill J c t) 67 n m q 0 t) 1 3 (nI (q + t))) 0 8 (nI 100)) 0 7 (nI 1)) G := by
  refine mm_Met.of qE_insert_ok (by decide) (mm_cats rfl) (Nat.le_of_ble_eq_true rfl) ?_
  refine mm_aload_n rfl rfl ?_
  refine mm_getR rfl rfl rfl (by decide) rfl (mm_gi hG 0 6 67 (by decide)) ?_
  refine mm_isV0 (M2 := qL_clear) wd_222 qL_clear_k (by decide) (sL_clear hG rfl) rfl (by decide) (Nat.le_of_ble_eq_true rfl) (by decide) (by decide) rfl (by decide) ?_
  refine mm_iconst (v := nI 0) rfl (by decide) ?_
  refine mm_istore_n rfl (by decide) ?_
  refine lE_insert hG ht ht9 ?_ t 0 rfl (Nat.zero_le _)
  refine mm_aload_n rfl rfl ?_
  refine mm_getI (x := J 0 8) rfl rfl rfl (by decide) rfl (by rw [ed_fill_o J c (by decide)]) ?_
  refine mm_bipush (v := nI 100) rfl (by decide) ?_
  refine mm_icmp_ne (tgt := 56) rfl (by decide) (fun h37 => ?_) (fun h37 => ?_)
  · refine mm_iconst (v := nI 0) rfl (by decide) ?_
    exact lE_insN hG hT ht9 hp hq h
  · refine mm_aload_n rfl rfl ?_
    refine mm_getR rfl rfl rfl (by decide) rfl (mm_gi hG 0 2 16 (by decide)) ?_
    refine mm_isV0 (M2 := qH_latestPut) wd_230 qH_latestPut_k (by decide) (sH_latestPut (q := u) hG (hT.fill c t).2.2.2.2.1 (by have := hT.2.2.2.2.2; omega) (by rw [ed_fill_o J c (by decide)]; exact hu h37)) rfl (by decide) (Nat.le_of_ble_eq_true rfl) (by decide) (by decide) rfl (by decide) ?_
    refine mm_bipush (v := nI 7) rfl (by decide) ?_
    refine mm_icmp_gtN (tgt := 56) rfl (by decide) (by omega) (by omega) (fun h49 => ?_) (fun h49 => ?_)
    · refine mm_iconst (v := nI 0) rfl (by decide) ?_
      exact lE_insN hG hT ht9 hp hq h
    · exact absurd ⟨h37, by omega⟩ hj
set_option maxRecDepth 100000 in
set_option maxHeartbeats 4000000 in
theorem sE_insert2 {E : mm_E} {G : mm_G} {J : mm_J} (hG : mm_GI G) {n m : Nat} (hT : ed_TI J n m) {q t : Nat} {c : Int32} (ht : J 0 7 = nI t) (ht9 : t ≤ 9) (hp : J 1 3 = nI q) (hq : q ≤ n) {u : Nat} (hu : J 0 8 = nI 100 → J 18 (m % 20) = nI u) (hu2 : u ≤ 100) (h : n + t ≤ 100) (hj : J 0 8 = nI 100 ∧ u ≤ 7) : mm_Ret E qE_insert [.ref 0, .int c] 86 J G (some (.int (nI 0))) 86 (mm_set (mm_set (mm_set (ed_rp (mm_set (ed_fill J c t) 18 (m % 20) (nI (u + t))) 67 n q 0 t) 1 3 (nI (q + t))) 0 8 (nI 100)) 0 7 (nI 1)) G := by
  refine mm_Met.of qE_insert_ok (by decide) (mm_cats rfl) (Nat.le_of_ble_eq_true rfl) ?_
  refine mm_aload_n rfl rfl ?_
  refine mm_getR rfl rfl rfl (by decide) rfl (mm_gi hG 0 6 67 (by decide)) ?_
  refine mm_isV0 (M2 := qL_clear) wd_222 qL_clear_k (by decide) (sL_clear hG rfl) rfl (by decide) (Nat.le_of_ble_eq_true rfl) (by decide) (by decide) rfl (by decide) ?_
  refine mm_iconst (v := nI 0) rfl (by decide) ?_
  refine mm_istore_n rfl (by decide) ?_
  refine lE_insert hG ht ht9 ?_ t 0 rfl (Nat.zero_le _)
  refine mm_aload_n rfl rfl ?_
  refine mm_getI (x := J 0 8) rfl rfl rfl (by decide) rfl (by rw [ed_fill_o J c (by decide)]) ?_
  refine mm_bipush (v := nI 100) rfl (by decide) ?_
  refine mm_icmp_ne (tgt := 56) rfl (by decide) (fun h37 => ?_) (fun h37 => ?_)
  · exact absurd hj.1 h37
  · refine mm_aload_n rfl rfl ?_
    refine mm_getR rfl rfl rfl (by decide) rfl (mm_gi hG 0 2 16 (by decide)) ?_
    refine mm_isV0 (M2 := qH_latestPut) wd_230 qH_latestPut_k (by decide) (sH_latestPut (q := u) hG (hT.fill c t).2.2.2.2.1 (by have := hT.2.2.2.2.2; omega) (by rw [ed_fill_o J c (by decide)]; exact hu h37)) rfl (by decide) (Nat.le_of_ble_eq_true rfl) (by decide) (by decide) rfl (by decide) ?_
    refine mm_bipush (v := nI 7) rfl (by decide) ?_
    refine mm_icmp_gtN (tgt := 56) rfl (by decide) (by omega) (by omega) (fun h49 => ?_) (fun h49 => ?_)
    · exact absurd h49 (by omega)
    · refine mm_iconst (v := nI 1) rfl (by decide) ?_
      refine mm_goto (tgt := 57) rfl (by decide) ?_
      exact lE_insJ hG hT ht9 hp hq h (hu h37)
set_option maxRecDepth 100000 in
set_option maxHeartbeats 4000000 in
theorem sE_olderKill0 {E : mm_E} {G : mm_G} {J : mm_J} (h : ¬ J 0 8 = nI 13 ∧ ¬ J 0 8 = nI 14) : mm_Ret E qE_olderKill [.ref 0] 86 J G (some (.int (-2))) 86 J G := by
  refine mm_Met.of qE_olderKill_ok (by decide) (mm_cats rfl) (Nat.le_of_ble_eq_true rfl) ?_
  refine mm_aload_n rfl rfl ?_
  refine mm_getI rfl rfl rfl (by decide) rfl rfl ?_
  refine mm_bipush (v := nI 13) rfl (by decide) ?_
  refine mm_icmp_eq (tgt := 21) rfl (by decide) (fun h6 => ?_) (fun h6 => ?_)
  · exact absurd h6 h.1
  · refine mm_aload_n rfl rfl ?_
    refine mm_getI rfl rfl rfl (by decide) rfl rfl ?_
    refine mm_bipush (v := nI 14) rfl (by decide) ?_
    refine mm_icmp_eq (tgt := 21) rfl (by decide) (fun h15 => ?_) (fun h15 => ?_)
    · exact absurd h15 h.2
    · refine mm_bipush (v := -2) rfl (by decide) ?_
      refine mm_ireturn rfl rfl rfl (by decide) (by decide) ?_
      exact ⟨rfl, rfl, rfl, rfl⟩
set_option maxRecDepth 100000 in
set_option maxHeartbeats 4000000 in
theorem sE_olderKill1 {E : mm_E} {G : mm_G} {J : mm_J} (hG : mm_GI G) (h : J 0 8 = nI 13 ∨ J 0 8 = nI 14) {c y : Nat} (hc : J 6 1 = nI c) (hc2 : c ≤ 4) (hy : J 0 10 = nI y) (hy2 : y < c) : mm_Ret E qE_olderKill [.ref 0] 86 J G (some (.int (nI (if y + 1 < c then y + 1 else 0)))) 86 J G := by
  refine mm_Met.of qE_olderKill_ok (by decide) (mm_cats rfl) (Nat.le_of_ble_eq_true rfl) ?_
  refine mm_aload_n rfl rfl ?_
  refine mm_getI rfl rfl rfl (by decide) rfl rfl ?_
  refine mm_bipush (v := nI 13) rfl (by decide) ?_
  refine mm_icmp_eq (tgt := 21) rfl (by decide) (fun h6 => ?_) (fun h6 => ?_)
  · refine mm_aload_n rfl rfl ?_
    refine mm_getI (x := nI y) rfl rfl rfl (by decide) rfl hy ?_
    refine mm_iconst (v := nI 1) rfl (by decide) ?_
    refine mm_iaddN rfl ?_
    refine mm_aload_n rfl rfl ?_
    refine mm_getR rfl rfl rfl (by decide) rfl (mm_gi hG 0 1 6 (by decide)) ?_
    refine mm_getI (x := nI c) rfl rfl rfl (by decide) rfl hc ?_
    refine mm_icmp_geN (tgt := 46) rfl (by decide) (by omega) (by omega) (fun h34 => ?_) (fun h34 => ?_)
    · refine mm_iconst (v := nI 0) rfl (by decide) ?_
      refine mm_ireturn rfl rfl rfl (by decide) (by decide) ?_
      exact ⟨by rw [if_neg (by omega)], rfl, rfl, rfl⟩
    · refine mm_aload_n rfl rfl ?_
      refine mm_getI (x := nI y) rfl rfl rfl (by decide) rfl hy ?_
      refine mm_iconst (v := nI 1) rfl (by decide) ?_
      refine mm_iaddN rfl ?_
      refine mm_goto (tgt := 47) rfl (by decide) ?_
      refine mm_ireturn rfl rfl rfl (by decide) (by decide) ?_
      exact ⟨by rw [if_pos h34], rfl, rfl, rfl⟩
  · refine mm_aload_n rfl rfl ?_
    refine mm_getI rfl rfl rfl (by decide) rfl rfl ?_
    refine mm_bipush (v := nI 14) rfl (by decide) ?_
    refine mm_icmp_eq (tgt := 21) rfl (by decide) (fun h15 => ?_) (fun h15 => ?_)
    · refine mm_aload_n rfl rfl ?_
      refine mm_getI (x := nI y) rfl rfl rfl (by decide) rfl hy ?_
      refine mm_iconst (v := nI 1) rfl (by decide) ?_
      refine mm_iaddN rfl ?_
      refine mm_aload_n rfl rfl ?_
      refine mm_getR rfl rfl rfl (by decide) rfl (mm_gi hG 0 1 6 (by decide)) ?_
      refine mm_getI (x := nI c) rfl rfl rfl (by decide) rfl hc ?_
      refine mm_icmp_geN (tgt := 46) rfl (by decide) (by omega) (by omega) (fun h34 => ?_) (fun h34 => ?_)
      · refine mm_iconst (v := nI 0) rfl (by decide) ?_
        refine mm_ireturn rfl rfl rfl (by decide) (by decide) ?_
        exact ⟨by rw [if_neg (by omega)], rfl, rfl, rfl⟩
      · refine mm_aload_n rfl rfl ?_
        refine mm_getI (x := nI y) rfl rfl rfl (by decide) rfl hy ?_
        refine mm_iconst (v := nI 1) rfl (by decide) ?_
        refine mm_iaddN rfl ?_
        refine mm_goto (tgt := 47) rfl (by decide) ?_
        refine mm_ireturn rfl rfl rfl (by decide) (by decide) ?_
        exact ⟨by rw [if_pos h34], rfl, rfl, rfl⟩
    · exact absurd h (fun q => q.elim h6 h15)
set_option maxRecDepth 100000 in
set_option maxHeartbeats 4000000 in
theorem sE_swapMark0 {E : mm_E} {G : mm_G} {J : mm_J} (hG : mm_GI G) (hk : J 4 4 = -2) : mm_Ret E qE_swapMark [.ref 0] 86 J G (some (.int (-2))) 86 J G := by
  refine mm_Met.of qE_swapMark_ok (by decide) (mm_cats rfl) (Nat.le_of_ble_eq_true rfl) ?_
  refine mm_aload_n rfl rfl ?_
  refine mm_getR rfl rfl rfl (by decide) rfl (mm_gi hG 0 0 1 (by decide)) ?_
  refine mm_getR rfl rfl rfl (by decide) rfl (mm_gi hG 1 1 4 (by decide)) ?_
  refine mm_iconst (v := nI 4) rfl (by decide) ?_
  refine mm_rdN rfl (by decide) rfl (by decide) (by decide) (by decide) rfl hk ?_
  refine mm_istore_n rfl (by decide) ?_
  refine mm_iload_n rfl rfl ?_
  refine mm_bipush (v := -2) rfl (by decide) ?_
  refine mm_icmp_ne (tgt := 19) rfl (by decide) (fun h13 => ?_) (fun h13 => ?_)
  · exact absurd rfl h13
  · refine mm_bipush (v := -2) rfl (by decide) ?_
    refine mm_ireturn rfl rfl rfl (by decide) (by decide) ?_
    exact ⟨rfl, rfl, rfl, rfl⟩
set_option maxRecDepth 100000 in
set_option maxHeartbeats 4000000 in
theorem sE_swapMark1 {E : mm_E} {G : mm_G} {J : mm_J} (hG : mm_GI G) {k : Nat} (hk : J 4 4 = nI k) (hk2 : k ≤ 100) : mm_Ret E qE_swapMark [.ref 0] 86 J G (some (.int (nI 0))) 86 (mm_set (mm_set J 4 4 (J 1 3)) 1 3 (nI k)) G := by
  refine mm_Met.of qE_swapMark_ok (by decide) (mm_cats rfl) (Nat.le_of_ble_eq_true rfl) ?_
  refine mm_aload_n rfl rfl ?_
  refine mm_getR rfl rfl rfl (by decide) rfl (mm_gi hG 0 0 1 (by decide)) ?_
  refine mm_getR rfl rfl rfl (by decide) rfl (mm_gi hG 1 1 4 (by decide)) ?_
  refine mm_iconst (v := nI 4) rfl (by decide) ?_
  refine mm_rdN rfl (by decide) rfl (by decide) (by decide) (by decide) rfl hk ?_
  refine mm_istore_n rfl (by decide) ?_
  refine mm_iload_n rfl rfl ?_
  refine mm_bipush (v := -2) rfl (by decide) ?_
  refine mm_icmp_ne (tgt := 19) rfl (by decide) (fun h13 => ?_) (fun h13 => ?_)
  · refine mm_aload_n rfl rfl ?_
    refine mm_aload_n rfl rfl ?_
    refine mm_getR rfl rfl rfl (by decide) rfl (mm_gi hG 0 0 1 (by decide)) ?_
    refine mm_getI rfl rfl rfl (by decide) rfl rfl ?_
    refine mm_isV1 (M2 := qE_setMark) wd_378 qE_setMark_k (by decide) (sE_setMark hG) rfl (by decide) (Nat.le_of_ble_eq_true rfl) (by decide) (by decide) rfl (by decide) ?_
    refine mm_pop rfl rfl ?_
    refine mm_aload_n rfl rfl ?_
    refine mm_iload_n rfl rfl ?_
    refine mm_isV1 (M2 := qE_moveTo) wd_301 qE_moveTo_k (by decide) (sE_moveTo hG) rfl (by decide) (Nat.le_of_ble_eq_true rfl) (by decide) (by decide) rfl (by decide) ?_
    refine mm_ireturn rfl rfl rfl (by decide) (by decide) ?_
    exact ⟨rfl, rfl, rfl, rfl⟩
  · exact absurd h13 (ed_m2n (by omega))
set_option maxRecDepth 100000 in
set_option maxHeartbeats 4000000 in
theorem sE_swapCharacters0 {E : mm_E} {G : mm_G} {J : mm_J} (hG : mm_GI G) {n m : Nat} (hT : ed_TI J n m) {q : Nat} (hp : J 1 3 = nI q) (hq : q ≤ n) (h : q = 0 ∨ q = n) : mm_Ret E qE_swapCharacters [.ref 0] 86 J G (some (.int (-2))) 86 J G := by
  refine mm_Met.of qE_swapCharacters_ok (by decide) (mm_cats rfl) (Nat.le_of_ble_eq_true rfl) ?_
  have hn2 := hT.2.1
  refine mm_aload_n rfl rfl ?_
  refine mm_getR rfl rfl rfl (by decide) rfl (mm_gi hG 0 0 1 (by decide)) ?_
  refine mm_getI (x := nI q) rfl rfl rfl (by decide) rfl hp ?_
  refine mm_istore_n rfl (by decide) ?_
  refine mm_iload_n rfl rfl ?_
  refine mm_iconst (v := nI 1) rfl (by decide) ?_
  refine mm_icmp_ltN (tgt := 27) rfl (by decide) (by omega) (by omega) (fun h10 => ?_) (fun h10 => ?_)
  · refine mm_bipush (v := -2) rfl (by decide) ?_
    refine mm_ireturn rfl rfl rfl (by decide) (by decide) ?_
    exact ⟨rfl, rfl, rfl, rfl⟩
  · refine mm_iload_n rfl rfl ?_
    refine mm_aload_n rfl rfl ?_
    refine mm_getR rfl rfl rfl (by decide) rfl (mm_gi hG 0 0 1 (by decide)) ?_
    refine mm_getR rfl rfl rfl (by decide) rfl (mm_gi hG 1 0 2 (by decide)) ?_
    refine mm_getI (x := nI n) rfl rfl rfl (by decide) rfl hT.1 ?_
    refine mm_icmp_ltN (tgt := 30) rfl (by decide) (by omega) (by omega) (fun h24 => ?_) (fun h24 => ?_)
    · exact absurd h24 (by omega)
    · refine mm_bipush (v := -2) rfl (by decide) ?_
      refine mm_ireturn rfl rfl rfl (by decide) (by decide) ?_
      exact ⟨rfl, rfl, rfl, rfl⟩
set_option maxRecDepth 100000 in
set_option maxHeartbeats 4000000 in
theorem sE_swapCharacters1 {E : mm_E} {G : mm_G} {J : mm_J} (hG : mm_GI G) {n m : Nat} (hT : ed_TI J n m) {q : Nat} (hp : J 1 3 = nI q) (hq : q ≤ n) (h1 : 0 < q) (h2 : q < n) : mm_Ret E qE_swapCharacters [.ref 0] 86 J G (some (.int (nI 0))) 86 (mm_set (ed_ed (mm_set (mm_set (mm_set (mm_set (mm_set J 67 1 (nI 0)) 68 0 (J 3 q)) 67 1 (nI (0 + 1))) 68 (0 + 1) (J 3 (q - 1))) 67 1 (nI (0 + 1 + 1))) 67 n m (q - 1) 2 2) 1 3 (nI (q + 1))) G := by
  refine mm_Met.of qE_swapCharacters_ok (by decide) (mm_cats rfl) (Nat.le_of_ble_eq_true rfl) ?_
  have hn2 := hT.2.1
  refine mm_aload_n rfl rfl ?_
  refine mm_getR rfl rfl rfl (by decide) rfl (mm_gi hG 0 0 1 (by decide)) ?_
  refine mm_getI (x := nI q) rfl rfl rfl (by decide) rfl hp ?_
  refine mm_istore_n rfl (by decide) ?_
  refine mm_iload_n rfl rfl ?_
  refine mm_iconst (v := nI 1) rfl (by decide) ?_
  refine mm_icmp_ltN (tgt := 27) rfl (by decide) (by omega) (by omega) (fun h10 => ?_) (fun h10 => ?_)
  · exact absurd h10 (by omega)
  · refine mm_iload_n rfl rfl ?_
    refine mm_aload_n rfl rfl ?_
    refine mm_getR rfl rfl rfl (by decide) rfl (mm_gi hG 0 0 1 (by decide)) ?_
    refine mm_getR rfl rfl rfl (by decide) rfl (mm_gi hG 1 0 2 (by decide)) ?_
    refine mm_getI (x := nI n) rfl rfl rfl (by decide) rfl hT.1 ?_
    refine mm_icmp_ltN (tgt := 30) rfl (by decide) (by omega) (by omega) (fun h24 => ?_) (fun h24 => ?_)
    · refine mm_aload_n rfl rfl ?_
      refine mm_getR rfl rfl rfl (by decide) rfl (mm_gi hG 0 6 67 (by decide)) ?_
      refine mm_isV0 (M2 := qL_clear) wd_222 qL_clear_k (by decide) (sL_clear hG rfl) rfl (by decide) (Nat.le_of_ble_eq_true rfl) (by decide) (by decide) rfl (by decide) ?_
      refine mm_aload_n rfl rfl ?_
      refine mm_getR rfl rfl rfl (by decide) rfl (mm_gi hG 0 6 67 (by decide)) ?_
      refine mm_aload_n rfl rfl ?_
      refine mm_getR rfl rfl rfl (by decide) rfl (mm_gi hG 0 0 1 (by decide)) ?_
      refine mm_getR rfl rfl rfl (by decide) rfl (mm_gi hG 1 0 2 (by decide)) ?_
      refine mm_getR rfl rfl rfl (by decide) rfl (mm_gi hG 2 0 3 (by decide)) ?_
      refine mm_iload_n rfl rfl ?_
      refine mm_rdN (x := J 3 q) rfl (by decide) rfl (by decide) (by omega) (by decide) rfl (by simp [mm_set]) ?_
      refine mm_isV1 (M2 := qL_add) wd_226 qL_add_k (by decide) (sL_add (k := 0) hG rfl (by simp [mm_set]) (by decide)) rfl (by decide) (Nat.le_of_ble_eq_true rfl) (by decide) (by decide) rfl (by decide) ?_
      refine mm_aload_n rfl rfl ?_
      refine mm_getR rfl rfl rfl (by decide) rfl (mm_gi hG 0 6 67 (by decide)) ?_
      refine mm_aload_n rfl rfl ?_
      refine mm_getR rfl rfl rfl (by decide) rfl (mm_gi hG 0 0 1 (by decide)) ?_
      refine mm_getR rfl rfl rfl (by decide) rfl (mm_gi hG 1 0 2 (by decide)) ?_
      refine mm_getR rfl rfl rfl (by decide) rfl (mm_gi hG 2 0 3 (by decide)) ?_
      refine mm_iload_n rfl rfl ?_
      refine mm_iconst (v := nI 1) rfl (by decide) ?_
      refine mm_isubN rfl (by omega) ?_
      refine mm_rdN (x := J 3 (q - 1)) rfl (by decide) rfl (by decide) (by omega) (by decide) rfl (by simp [mm_set]) ?_
      refine mm_isV1 (M2 := qL_add) wd_226 qL_add_k (by decide) (sL_add (k := 0 + 1) hG rfl (by simp [mm_set]) (by decide)) rfl (by decide) (Nat.le_of_ble_eq_true rfl) (by decide) (by decide) rfl (by decide) ?_
      refine mm_aload_n rfl rfl ?_
      refine mm_getR rfl rfl rfl (by decide) rfl (mm_gi hG 0 2 16 (by decide)) ?_
      refine mm_aload_n rfl rfl ?_
      refine mm_getR rfl rfl rfl (by decide) rfl (mm_gi hG 0 0 1 (by decide)) ?_
      refine mm_iload_n rfl rfl ?_
      refine mm_iconst (v := nI 1) rfl (by decide) ?_
      refine mm_isubN rfl (by omega) ?_
      refine mm_iconst (v := nI 2) rfl (by decide) ?_
      refine mm_aload_n rfl rfl ?_
      refine mm_getR rfl rfl rfl (by decide) rfl (mm_gi hG 0 6 67 (by decide)) ?_
      refine mm_iconst (v := nI 0) rfl (by decide) ?_
      refine mm_isV5 (M2 := qH_edit) wd_240 qH_edit_k (by decide) (sH_ed1 (s := 2) (n := n) (m := m) hG rfl (by decide) (hT.fr rfl rfl rfl rfl) (by simp [mm_set]) (by omega) (by omega) (by omega)) rfl (by decide) (Nat.le_of_ble_eq_true rfl) (by decide) (by decide) rfl (by decide) ?_
      refine mm_pop rfl rfl ?_
      refine mm_aload_n rfl rfl ?_
      refine mm_iload_n rfl rfl ?_
      refine mm_iconst (v := nI 1) rfl (by decide) ?_
      refine mm_iaddN rfl ?_
      refine mm_isV1 (M2 := qE_moveTo) wd_301 qE_moveTo_k (by decide) (sE_moveTo hG) rfl (by decide) (Nat.le_of_ble_eq_true rfl) (by decide) (by decide) rfl (by decide) ?_
      refine mm_ireturn rfl rfl rfl (by decide) (by decide) ?_
      exact ⟨rfl, rfl, rfl, rfl⟩
    · exact absurd h24 (by omega)
