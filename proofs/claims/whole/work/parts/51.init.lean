theorem mm_Go.cast {E : mm_E} {M : mm_M} {pc n n' cs cs' sl sl' : Nat} {lv : List (Option Value)} {st : List Value} {J J' : mm_J} {G G' : mm_G} {F : mm_F} (h : mm_Go E M pc lv st n J G cs sl F) (e1 : n = n') (e2 : J = J') (e3 : G = G') (e4 : cs = cs') (e5 : sl = sl') : mm_Go E M pc lv st n' J' G' cs' sl' F := by
  subst e1
  subst e2
  subst e3
  subst e4
  subst e5
  exact h
theorem mm_s8 : ∀ i, i < 4 → mm_SH (8 + 2 * i) = .inl 2 ∧ mm_SH (8 + 2 * i + 1) = .inr (0, 100) := by decide
theorem mm_s20 : ∀ i, i < 20 → mm_SH (20 + 2 * i) = .inl 2 ∧ mm_SH (20 + 2 * i + 1) = .inr (0, 100) := by decide
def mm_zs (J : mm_J) (a b : Nat) : mm_J := fun i k => if a ≤ i ∧ i < b then 0 else J i k
def mm_iT (J : mm_J) : mm_J := fun i k => if 2 ≤ i ∧ i < 6 then (if i = 4 ∧ k < 5 then -2 else 0) else J i k
def mm_gT (G : mm_G) : mm_G := fun i k => if i = 1 ∧ k < 3 then some (if k = 0 then 2 else k + 3) else if 2 ≤ i ∧ i < 6 then (if i = 2 ∧ k = 0 then some 3 else none) else G i k
def mm_gK (G : mm_G) (m : Nat) : mm_G := fun i k => if i = 6 ∧ k = 0 then some 7 else if i = 7 then (if k < m then some (8 + 2 * k) else none) else if 8 ≤ i ∧ i < 8 + 2 * m then (if i % 2 = 0 ∧ k = 0 then some (i + 1) else none) else G i k
def mm_gH (G : mm_G) (m : Nat) : mm_G := fun i k => if i = 16 ∧ k < 3 then some (17 + k) else if i = 17 ∨ i = 18 then none else if i = 19 then (if k < m then some (20 + 2 * k) else none) else if 20 ≤ i ∧ i < 20 + 2 * m then (if i % 2 = 0 ∧ k = 0 then some (i + 1) else none) else G i k
def mm_gY (G : mm_G) : mm_G := fun i k => if i = 60 ∧ k < 2 then some (61 + k) else if i = 61 ∨ i = 62 then none else G i k
def mm_gV (G : mm_G) : mm_G := fun i k => if i = 63 ∧ k < 2 then some (64 + k) else if i = 64 ∨ i = 65 then none else G i k
set_option maxRecDepth 100000 in
set_option maxHeartbeats 4000000 in
theorem sL_init {E : mm_E} {G : mm_G} {J : mm_J} {a : Nat} (hs : mm_SH a = .inl 2) (hs2 : mm_SH (a + 1) = .inr (0, 100)) : mm_Ret E qL_init [.ref a] (a + 1) J G none (a + 1 + 1) (mm_z J (a + 1)) (mm_sg (mm_zg G (a + 1)) a 0 (some (a + 1))) := by
  refine mm_Met.of qL_init_ok (by decide) (mm_cats rfl) (Nat.le_of_ble_eq_true rfl) ?_
  refine mm_aload_n rfl rfl ?_
  refine mm_objInit rfl wd_31 wd_18 wd_19 (by decide) (Nat.le_of_ble_eq_true rfl) ?_
  refine mm_aload_n rfl rfl ?_
  refine mm_bipush (v := nI 100) rfl (by decide) ?_
  refine mm_newa rfl hs2 (by decide) rfl rfl rfl wd_46 (by decide) (by decide) (by decide) (by decide) (by decide) ?_
  refine mm_putR rfl rfl hs (by omega) rfl (Or.inr ⟨rfl, rfl⟩) rfl rfl ?_
  refine mm_return rfl rfl (by decide) (by decide) ?_
  exact ⟨rfl, rfl, rfl, rfl⟩
set_option maxRecDepth 100000 in
set_option maxHeartbeats 4000000 in
theorem sT_init {E : mm_E} {G : mm_G} {J : mm_J}  : mm_Ret E qT_init [.ref 1] 2 J G none 6 (mm_iT J) (mm_gT G) := by
  refine mm_Met.of qT_init_ok (by decide) (mm_cats rfl) (Nat.le_of_ble_eq_true rfl) ?_
  refine mm_aload_n rfl rfl ?_
  refine mm_objInit rfl wd_25 wd_18 wd_19 (by decide) (Nat.le_of_ble_eq_true rfl) ?_
  refine mm_aload_n rfl rfl ?_
  refine mm_new rfl rfl rfl wd_26 wd_27 wd_3 (by decide) (by decide) ?_
  refine mm_dup rfl rfl ?_
  refine mm_isI0 (M2 := qL_init) wd_28 qL_init_k (by decide) (sL_init rfl rfl) (Nat.le_of_ble_eq_true rfl) (by decide) (by decide) rfl (by decide) ?_
  refine mm_putR rfl rfl rfl (by decide) rfl (Or.inr ⟨rfl, rfl⟩) rfl rfl ?_
  refine mm_aload_n rfl rfl ?_
  refine mm_iconst (v := nI 5) rfl (by decide) ?_
  refine mm_newa rfl rfl (by decide) rfl rfl rfl wd_46 (by decide) (by decide) (by decide) (by decide) (by decide) ?_
  refine mm_putR rfl rfl rfl (by decide) rfl (Or.inr ⟨rfl, rfl⟩) rfl rfl ?_
  refine mm_aload_n rfl rfl ?_
  refine mm_iconst (v := nI 5) rfl (by decide) ?_
  refine mm_newa rfl rfl (by decide) rfl rfl rfl wd_66 (by decide) (by decide) (by decide) (by decide) (by decide) ?_
  refine mm_putR rfl rfl rfl (by decide) rfl (Or.inr ⟨rfl, rfl⟩) rfl rfl ?_
  refine mm_iconst (v := nI 0) rfl (by decide) ?_
  refine mm_istore_n rfl (by decide) ?_
  refine mm_iload_n rfl rfl ?_
  refine mm_aload_n rfl rfl ?_
  refine mm_getR rfl rfl rfl (by decide) rfl rfl ?_
  refine mm_len (v := nI 5) rfl (by decide) (by decide) rfl rfl ?_
  refine mm_icmp_geN (tgt := 54) rfl (by decide) (by decide) (by decide) (fun h => absurd h (by decide)) (fun _ => ?_)
  refine mm_aload_n rfl rfl ?_
  refine mm_getR rfl rfl rfl (by decide) rfl rfl ?_
  refine mm_iload_n rfl rfl ?_
  refine mm_bipush (v := -2) rfl (by decide) ?_
  refine mm_wrN rfl (by decide) rfl (by decide) (by omega) (by decide) rfl ?_
  refine mm_iincN rfl rfl (mm_inc1 _) (by decide) ?_
  refine mm_goto (tgt := 31) rfl (by decide) ?_
  refine mm_iload_n rfl rfl ?_
  refine mm_aload_n rfl rfl ?_
  refine mm_getR rfl rfl rfl (by decide) rfl rfl ?_
  refine mm_len (v := nI 5) rfl (by decide) (by decide) rfl rfl ?_
  refine mm_icmp_geN (tgt := 54) rfl (by decide) (by decide) (by decide) (fun h => absurd h (by decide)) (fun _ => ?_)
  refine mm_aload_n rfl rfl ?_
  refine mm_getR rfl rfl rfl (by decide) rfl rfl ?_
  refine mm_iload_n rfl rfl ?_
  refine mm_bipush (v := -2) rfl (by decide) ?_
  refine mm_wrN rfl (by decide) rfl (by decide) (by omega) (by decide) rfl ?_
  refine mm_iincN rfl rfl (mm_inc1 _) (by decide) ?_
  refine mm_goto (tgt := 31) rfl (by decide) ?_
  refine mm_iload_n rfl rfl ?_
  refine mm_aload_n rfl rfl ?_
  refine mm_getR rfl rfl rfl (by decide) rfl rfl ?_
  refine mm_len (v := nI 5) rfl (by decide) (by decide) rfl rfl ?_
  refine mm_icmp_geN (tgt := 54) rfl (by decide) (by decide) (by decide) (fun h => absurd h (by decide)) (fun _ => ?_)
  refine mm_aload_n rfl rfl ?_
  refine mm_getR rfl rfl rfl (by decide) rfl rfl ?_
  refine mm_iload_n rfl rfl ?_
  refine mm_bipush (v := -2) rfl (by decide) ?_
  refine mm_wrN rfl (by decide) rfl (by decide) (by omega) (by decide) rfl ?_
  refine mm_iincN rfl rfl (mm_inc1 _) (by decide) ?_
  refine mm_goto (tgt := 31) rfl (by decide) ?_
  refine mm_iload_n rfl rfl ?_
  refine mm_aload_n rfl rfl ?_
  refine mm_getR rfl rfl rfl (by decide) rfl rfl ?_
  refine mm_len (v := nI 5) rfl (by decide) (by decide) rfl rfl ?_
  refine mm_icmp_geN (tgt := 54) rfl (by decide) (by decide) (by decide) (fun h => absurd h (by decide)) (fun _ => ?_)
  refine mm_aload_n rfl rfl ?_
  refine mm_getR rfl rfl rfl (by decide) rfl rfl ?_
  refine mm_iload_n rfl rfl ?_
  refine mm_bipush (v := -2) rfl (by decide) ?_
  refine mm_wrN rfl (by decide) rfl (by decide) (by omega) (by decide) rfl ?_
  refine mm_iincN rfl rfl (mm_inc1 _) (by decide) ?_
  refine mm_goto (tgt := 31) rfl (by decide) ?_
  refine mm_iload_n rfl rfl ?_
  refine mm_aload_n rfl rfl ?_
  refine mm_getR rfl rfl rfl (by decide) rfl rfl ?_
  refine mm_len (v := nI 5) rfl (by decide) (by decide) rfl rfl ?_
  refine mm_icmp_geN (tgt := 54) rfl (by decide) (by decide) (by decide) (fun h => absurd h (by decide)) (fun _ => ?_)
  refine mm_aload_n rfl rfl ?_
  refine mm_getR rfl rfl rfl (by decide) rfl rfl ?_
  refine mm_iload_n rfl rfl ?_
  refine mm_bipush (v := -2) rfl (by decide) ?_
  refine mm_wrN rfl (by decide) rfl (by decide) (by omega) (by decide) rfl ?_
  refine mm_iincN rfl rfl (mm_inc1 _) (by decide) ?_
  refine mm_goto (tgt := 31) rfl (by decide) ?_
  refine mm_iload_n rfl rfl ?_
  refine mm_aload_n rfl rfl ?_
  refine mm_getR rfl rfl rfl (by decide) rfl rfl ?_
  refine mm_len (v := nI 5) rfl (by decide) (by decide) rfl rfl ?_
  refine mm_icmp_geN (tgt := 54) rfl (by decide) (by decide) (by decide) (fun _ => ?_) (fun h => absurd h (by decide))
  refine mm_return rfl rfl (by decide) (by decide) ?_
  refine ⟨rfl, rfl, ?_, ?_⟩
  · exact (by funext i k; dsimp only [mm_iT, mm_set, mm_z]; (repeat' split) <;> first | rfl | (exfalso; omega) | (congr 1; omega))
  · exact (by funext i k; dsimp only [mm_gT, mm_sg, mm_zg]; (repeat' split) <;> first | rfl | (exfalso; omega) | (congr 1; omega))
set_option maxRecDepth 100000 in
set_option maxHeartbeats 800000 in
theorem lK_init {E : mm_E} {G : mm_G} {J : mm_J} : ∀ (n i : Nat), 4 - i = n → i ≤ 4 → mm_Go E qK_init 14 [some (.ref 6), some (.int (nI i))] [] (8 + 2 * i) (mm_zs J 7 (8 + 2 * i)) (mm_gK G i) (1 + 2 * i) (4 + 102 * i) (mm_Fm E qK_init (mm_is none 16 (mm_zs J 7 16) (mm_gK G 4)))
  | 0, i, hn, hi => by
    obtain rfl : i = 4 := by omega
    refine mm_iload_n rfl rfl ?_
    refine mm_iconst (v := nI 4) rfl (by decide) ?_
    refine mm_icmp_geN (tgt := 38) rfl (by decide) (by omega) (by omega) (fun h16 => ?_) (fun h16 => ?_)
    · refine mm_return rfl rfl (by show _ ≤ _; decide) (by show _ ≤ _; decide) ?_
      exact ⟨rfl, rfl, rfl, rfl⟩
    · exact absurd h16 (by omega)
  | n + 1, i, hn, hi => by
    refine mm_iload_n rfl rfl ?_
    refine mm_iconst (v := nI 4) rfl (by decide) ?_
    refine mm_icmp_geN (tgt := 38) rfl (by decide) (by omega) (by omega) (fun h16 => ?_) (fun h16 => ?_)
    · exact absurd h16 (by omega)
    · refine mm_aload_n rfl rfl ?_
      refine mm_getR rfl rfl rfl (by omega) rfl rfl ?_
      refine mm_iload_n rfl rfl ?_
      refine mm_new rfl (mm_s8 i (by omega)).1 rfl wd_73 wd_27 wd_3 (by show 1 + 2 * i + 1 ≤ 9; omega) (by show 4 + 102 * i + 2 ≤ 412; omega) ?_
      refine mm_dup rfl rfl ?_
      refine mm_isI0 (M2 := qL_init) wd_75 qL_init_k (by decide) (sL_init (mm_s8 i (by omega)).1 (mm_s8 i (by omega)).2) (Nat.le_of_ble_eq_true rfl) (by show 1 + 2 * i + 1 + 1 ≤ 9; omega) (by show 4 + 102 * i + 2 + 100 ≤ 412; omega) rfl (by omega) ?_
      refine mm_wqN rfl (by decide) rfl (by omega) (show i < 4 by omega) (by decide) (by omega) (mm_s8 i (by omega)).1 rfl rfl ?_
      refine mm_iincN rfl rfl (mm_inc1 _) (by decide) ?_
      refine mm_goto (tgt := 14) rfl (by decide) ?_
      refine (lK_init n (i + 1) (by omega) (by omega)).cast (by omega) (by funext i k; dsimp only [mm_zs, mm_z]; (repeat' split) <;> first | rfl | (exfalso; omega) | (congr 1; omega)) (by funext i k; dsimp only [mm_gK, mm_sg, mm_zg]; (repeat' split) <;> first | rfl | (exfalso; omega) | (congr 1; omega)) (by show 1 + 2 * (i + 1) = 1 + 2 * i + 1 + 1; omega) (by show 4 + 102 * (i + 1) = 4 + 102 * i + 2 + 100; omega)
set_option maxRecDepth 100000 in
set_option maxHeartbeats 4000000 in
theorem sK_init {E : mm_E} {G : mm_G} {J : mm_J}  : mm_Ret E qK_init [.ref 6] 7 J G none 16 (mm_zs J 7 16) (mm_gK G 4) := by
  refine mm_Met.of qK_init_ok (by decide) (mm_cats rfl) (Nat.le_of_ble_eq_true rfl) ?_
  refine mm_aload_n rfl rfl ?_
  refine mm_objInit rfl wd_72 wd_18 wd_19 (by decide) (Nat.le_of_ble_eq_true rfl) ?_
  refine mm_aload_n rfl rfl ?_
  refine mm_iconst (v := nI 4) rfl (by decide) ?_
  refine mm_newq rfl rfl (by decide) rfl wd_73 rfl (by decide) (by decide) (by decide) (by decide) (by decide) ?_
  refine mm_putR rfl rfl rfl (by decide) rfl (Or.inr ⟨rfl, rfl⟩) rfl rfl ?_
  refine mm_iconst (v := nI 0) rfl (by decide) ?_
  refine mm_istore_n rfl (by decide) ?_
  refine (lK_init (G := G) (J := J) 4 0 rfl (by omega)).cast rfl (by funext i k; dsimp only [mm_zs, mm_z]; (repeat' split) <;> first | rfl | (exfalso; omega) | (congr 1; omega)) (by funext i k; dsimp only [mm_gK, mm_sg, mm_zg]; (repeat' split) <;> first | rfl | (exfalso; omega) | (congr 1; omega)) rfl rfl
set_option maxRecDepth 100000 in
set_option maxHeartbeats 800000 in
theorem lH_init {E : mm_E} {G : mm_G} {J : mm_J} : ∀ (n i : Nat), 20 - i = n → i ≤ 20 → mm_Go E qH_init 31 [some (.ref 16), some (.int (nI i))] [] (20 + 2 * i) (mm_zs J 17 (20 + 2 * i)) (mm_gH G i) (3 + 2 * i) (60 + 102 * i) (mm_Fm E qH_init (mm_is none 60 (mm_zs J 17 60) (mm_gH G 20)))
  | 0, i, hn, hi => by
    obtain rfl : i = 20 := by omega
    refine mm_iload_n rfl rfl ?_
    refine mm_bipush (v := nI 20) rfl (by decide) ?_
    refine mm_icmp_geN (tgt := 56) rfl (by decide) (by omega) (by omega) (fun h34 => ?_) (fun h34 => ?_)
    · refine mm_return rfl rfl (by show _ ≤ _; decide) (by show _ ≤ _; decide) ?_
      exact ⟨rfl, rfl, rfl, rfl⟩
    · exact absurd h34 (by omega)
  | n + 1, i, hn, hi => by
    refine mm_iload_n rfl rfl ?_
    refine mm_bipush (v := nI 20) rfl (by decide) ?_
    refine mm_icmp_geN (tgt := 56) rfl (by decide) (by omega) (by omega) (fun h34 => ?_) (fun h34 => ?_)
    · exact absurd h34 (by omega)
    · refine mm_aload_n rfl rfl ?_
      refine mm_getR rfl rfl rfl (by omega) rfl rfl ?_
      refine mm_iload_n rfl rfl ?_
      refine mm_new rfl (mm_s20 i (by omega)).1 rfl wd_91 wd_27 wd_3 (by show 3 + 2 * i + 1 ≤ 43; omega) (by show 60 + 102 * i + 2 ≤ 2100; omega) ?_
      refine mm_dup rfl rfl ?_
      refine mm_isI0 (M2 := qL_init) wd_92 qL_init_k (by decide) (sL_init (mm_s20 i (by omega)).1 (mm_s20 i (by omega)).2) (Nat.le_of_ble_eq_true rfl) (by show 3 + 2 * i + 1 + 1 ≤ 43; omega) (by show 60 + 102 * i + 2 + 100 ≤ 2100; omega) rfl (by omega) ?_
      refine mm_wqN rfl (by decide) rfl (by omega) (show i < 20 by omega) (by decide) (by omega) (mm_s20 i (by omega)).1 rfl rfl ?_
      refine mm_iincN rfl rfl (mm_inc1 _) (by decide) ?_
      refine mm_goto (tgt := 31) rfl (by decide) ?_
      refine (lH_init n (i + 1) (by omega) (by omega)).cast (by omega) (by funext i k; dsimp only [mm_zs, mm_z]; (repeat' split) <;> first | rfl | (exfalso; omega) | (congr 1; omega)) (by funext i k; dsimp only [mm_gH, mm_sg, mm_zg]; (repeat' split) <;> first | rfl | (exfalso; omega) | (congr 1; omega)) (by show 3 + 2 * (i + 1) = 3 + 2 * i + 1 + 1; omega) (by show 60 + 102 * (i + 1) = 60 + 102 * i + 2 + 100; omega)
set_option maxRecDepth 100000 in
set_option maxHeartbeats 4000000 in
theorem sH_init {E : mm_E} {G : mm_G} {J : mm_J}  : mm_Ret E qH_init [.ref 16] 17 J G none 60 (mm_zs J 17 60) (mm_gH G 20) := by
  refine mm_Met.of qH_init_ok (by decide) (mm_cats rfl) (Nat.le_of_ble_eq_true rfl) ?_
  refine mm_aload_n rfl rfl ?_
  refine mm_objInit rfl wd_90 wd_18 wd_19 (by decide) (Nat.le_of_ble_eq_true rfl) ?_
  refine mm_aload_n rfl rfl ?_
  refine mm_bipush (v := nI 20) rfl (by decide) ?_
  refine mm_newa rfl rfl (by decide) rfl rfl rfl wd_46 (by decide) (by decide) (by decide) (by decide) (by decide) ?_
  refine mm_putR rfl rfl rfl (by decide) rfl (Or.inr ⟨rfl, rfl⟩) rfl rfl ?_
  refine mm_aload_n rfl rfl ?_
  refine mm_bipush (v := nI 20) rfl (by decide) ?_
  refine mm_newa rfl rfl (by decide) rfl rfl rfl wd_46 (by decide) (by decide) (by decide) (by decide) (by decide) ?_
  refine mm_putR rfl rfl rfl (by decide) rfl (Or.inr ⟨rfl, rfl⟩) rfl rfl ?_
  refine mm_aload_n rfl rfl ?_
  refine mm_bipush (v := nI 20) rfl (by decide) ?_
  refine mm_newq rfl rfl (by decide) rfl wd_91 rfl (by decide) (by decide) (by decide) (by decide) (by decide) ?_
  refine mm_putR rfl rfl rfl (by decide) rfl (Or.inr ⟨rfl, rfl⟩) rfl rfl ?_
  refine mm_iconst (v := nI 0) rfl (by decide) ?_
  refine mm_istore_n rfl (by decide) ?_
  refine (lH_init (G := G) (J := J) 20 0 rfl (by omega)).cast rfl (by funext i k; dsimp only [mm_zs, mm_z]; (repeat' split) <;> first | rfl | (exfalso; omega) | (congr 1; omega)) (by funext i k; dsimp only [mm_gH, mm_sg, mm_zg]; (repeat' split) <;> first | rfl | (exfalso; omega) | (congr 1; omega)) rfl rfl
set_option maxRecDepth 100000 in
set_option maxHeartbeats 4000000 in
theorem sY_init {E : mm_E} {G : mm_G} {J : mm_J}  : mm_Ret E qY_init [.ref 60] 61 J G none 63 (mm_zs J 61 63) (mm_gY G) := by
  refine mm_Met.of qY_init_ok (by decide) (mm_cats rfl) (Nat.le_of_ble_eq_true rfl) ?_
  refine mm_aload_n rfl rfl ?_
  refine mm_objInit rfl wd_115 wd_18 wd_19 (by decide) (Nat.le_of_ble_eq_true rfl) ?_
  refine mm_aload_n rfl rfl ?_
  refine mm_bipush (v := nI 24) rfl (by decide) ?_
  refine mm_newa rfl rfl (by decide) rfl rfl rfl wd_46 (by decide) (by decide) (by decide) (by decide) (by decide) ?_
  refine mm_putR rfl rfl rfl (by decide) rfl (Or.inr ⟨rfl, rfl⟩) rfl rfl ?_
  refine mm_aload_n rfl rfl ?_
  refine mm_bipush (v := nI 24) rfl (by decide) ?_
  refine mm_newa rfl rfl (by decide) rfl rfl rfl wd_46 (by decide) (by decide) (by decide) (by decide) (by decide) ?_
  refine mm_putR rfl rfl rfl (by decide) rfl (Or.inr ⟨rfl, rfl⟩) rfl rfl ?_
  refine mm_return rfl rfl (by decide) (by decide) ?_
  refine ⟨rfl, rfl, ?_, ?_⟩
  · exact (by funext i k; dsimp only [mm_zs, mm_z]; (repeat' split) <;> first | rfl | (exfalso; omega) | (congr 1; omega))
  · exact (by funext i k; dsimp only [mm_gY, mm_sg, mm_zg]; (repeat' split) <;> first | rfl | (exfalso; omega) | (congr 1; omega))
set_option maxRecDepth 100000 in
set_option maxHeartbeats 4000000 in
theorem sV_init {E : mm_E} {G : mm_G} {J : mm_J}  : mm_Ret E qV_init [.ref 63] 64 J G none 66 (mm_zs J 64 66) (mm_gV G) := by
  refine mm_Met.of qV_init_ok (by decide) (mm_cats rfl) (Nat.le_of_ble_eq_true rfl) ?_
  refine mm_aload_n rfl rfl ?_
  refine mm_objInit rfl wd_135 wd_18 wd_19 (by decide) (Nat.le_of_ble_eq_true rfl) ?_
  refine mm_aload_n rfl rfl ?_
  refine mm_bipush (v := nI 12) rfl (by decide) ?_
  refine mm_newa rfl rfl (by decide) rfl rfl rfl wd_46 (by decide) (by decide) (by decide) (by decide) (by decide) ?_
  refine mm_putR rfl rfl rfl (by decide) rfl (Or.inr ⟨rfl, rfl⟩) rfl rfl ?_
  refine mm_aload_n rfl rfl ?_
  refine mm_bipush (v := nI 12) rfl (by decide) ?_
  refine mm_newa rfl rfl (by decide) rfl rfl rfl wd_66 (by decide) (by decide) (by decide) (by decide) (by decide) ?_
  refine mm_putR rfl rfl rfl (by decide) rfl (Or.inr ⟨rfl, rfl⟩) rfl rfl ?_
  refine mm_return rfl rfl (by decide) (by decide) ?_
  refine ⟨rfl, rfl, ?_, ?_⟩
  · exact (by funext i k; dsimp only [mm_zs, mm_z]; (repeat' split) <;> first | rfl | (exfalso; omega) | (congr 1; omega))
  · exact (by funext i k; dsimp only [mm_gV, mm_sg, mm_zg]; (repeat' split) <;> first | rfl | (exfalso; omega) | (congr 1; omega))
set_option maxRecDepth 100000 in
set_option maxHeartbeats 4000000 in
theorem sN_init {E : mm_E} {G : mm_G} {J : mm_J}  : mm_Ret E qN_init [.ref 66] 67 J G none 67 (mm_set (mm_set J 66 0 (nI 10)) 66 1 (nI 4)) G := by
  refine mm_Met.of qN_init_ok (by decide) (mm_cats rfl) (Nat.le_of_ble_eq_true rfl) ?_
  refine mm_aload_n rfl rfl ?_
  refine mm_objInit rfl wd_158 wd_18 wd_19 (by decide) (Nat.le_of_ble_eq_true rfl) ?_
  refine mm_aload_n rfl rfl ?_
  refine mm_bipush (v := nI 10) rfl (by decide) ?_
  refine mm_putI rfl rfl rfl (by decide) rfl (Or.inl rfl) rfl rfl ?_
  refine mm_aload_n rfl rfl ?_
  refine mm_iconst (v := nI 4) rfl (by decide) ?_
  refine mm_putI rfl rfl rfl (by decide) rfl (Or.inl rfl) rfl rfl ?_
  refine mm_return rfl rfl (by decide) (by decide) ?_
  exact ⟨rfl, rfl, rfl, rfl⟩
def mm_jE (J : mm_J) : mm_J := (mm_set (mm_set (mm_z (mm_z (mm_set (mm_set (mm_z (mm_zs (mm_z (mm_zs (mm_z (mm_zs (mm_z (mm_zs (mm_z (mm_iT (mm_z J 1)) 6) 7 16) 16) 17 60) 60) 61 63) 63) 64 66) 66) 66 0 (nI 10)) 66 1 (nI 4)) 67) (67 + 1)) 0 7 (nI 1)) 0 8 (-2))
def mm_gE (G : mm_G) : mm_G := (mm_sg (mm_sg (mm_zg (mm_zg (mm_sg (mm_zg (mm_sg (mm_gV (mm_zg (mm_sg (mm_gY (mm_zg (mm_sg (mm_gH (mm_zg (mm_sg (mm_gK (mm_zg (mm_sg (mm_gT (mm_zg G 1)) 0 0 (some 1)) 6) 4) 0 1 (some 6)) 16) 20) 0 2 (some 16)) 60)) 0 3 (some 60)) 63)) 0 4 (some 63)) 66) 0 5 (some 66)) 67) (67 + 1)) 67 0 (some (67 + 1))) 0 6 (some 67))
set_option maxRecDepth 100000 in
set_option maxHeartbeats 4000000 in
theorem sE_init {E : mm_E} {G : mm_G} {J : mm_J}  : mm_Ret E qE_init [.ref 0] 1 J G none 69 (mm_jE J) (mm_gE G) := by
  refine mm_Met.of qE_init_ok (by decide) (mm_cats rfl) (Nat.le_of_ble_eq_true rfl) ?_
  refine mm_aload_n rfl rfl ?_
  refine mm_objInit rfl wd_17 wd_18 wd_19 (by decide) (Nat.le_of_ble_eq_true rfl) ?_
  refine mm_aload_n rfl rfl ?_
  refine mm_new rfl rfl rfl wd_20 wd_21 wd_2 (by decide) (by decide) ?_
  refine mm_dup rfl rfl ?_
  refine mm_isI0 (M2 := qT_init) wd_22 qT_init_k (by decide) sT_init (Nat.le_of_ble_eq_true rfl) (by decide) (by decide) rfl (by decide) ?_
  refine mm_putR rfl rfl rfl (by decide) rfl (Or.inr ⟨rfl, rfl⟩) rfl rfl ?_
  refine mm_aload_n rfl rfl ?_
  refine mm_new rfl rfl rfl wd_67 wd_68 wd_4 (by decide) (by decide) ?_
  refine mm_dup rfl rfl ?_
  refine mm_isI0 (M2 := qK_init) wd_69 qK_init_k (by decide) sK_init (Nat.le_of_ble_eq_true rfl) (by decide) (by decide) rfl (by decide) ?_
  refine mm_putR rfl rfl rfl (by decide) rfl (Or.inr ⟨rfl, rfl⟩) rfl rfl ?_
  refine mm_aload_n rfl rfl ?_
  refine mm_new rfl rfl rfl wd_85 wd_86 wd_5 (by decide) (by decide) ?_
  refine mm_dup rfl rfl ?_
  refine mm_isI0 (M2 := qH_init) wd_87 qH_init_k (by decide) sH_init (Nat.le_of_ble_eq_true rfl) (by decide) (by decide) rfl (by decide) ?_
  refine mm_putR rfl rfl rfl (by decide) rfl (Or.inr ⟨rfl, rfl⟩) rfl rfl ?_
  refine mm_aload_n rfl rfl ?_
  refine mm_new rfl rfl rfl wd_110 wd_111 wd_6 (by decide) (by decide) ?_
  refine mm_dup rfl rfl ?_
  refine mm_isI0 (M2 := qY_init) wd_112 qY_init_k (by decide) sY_init (Nat.le_of_ble_eq_true rfl) (by decide) (by decide) rfl (by decide) ?_
  refine mm_putR rfl rfl rfl (by decide) rfl (Or.inr ⟨rfl, rfl⟩) rfl rfl ?_
  refine mm_aload_n rfl rfl ?_
  refine mm_new rfl rfl rfl wd_130 wd_131 wd_7 (by decide) (by decide) ?_
  refine mm_dup rfl rfl ?_
  refine mm_isI0 (M2 := qV_init) wd_132 qV_init_k (by decide) sV_init (Nat.le_of_ble_eq_true rfl) (by decide) (by decide) rfl (by decide) ?_
  refine mm_putR rfl rfl rfl (by decide) rfl (Or.inr ⟨rfl, rfl⟩) rfl rfl ?_
  refine mm_aload_n rfl rfl ?_
  refine mm_new rfl rfl rfl wd_153 wd_154 wd_8 (by decide) (by decide) ?_
  refine mm_dup rfl rfl ?_
  refine mm_isI0 (M2 := qN_init) wd_155 qN_init_k (by decide) sN_init (Nat.le_of_ble_eq_true rfl) (by decide) (by decide) rfl (by decide) ?_
  refine mm_putR rfl rfl rfl (by decide) rfl (Or.inr ⟨rfl, rfl⟩) rfl rfl ?_
  refine mm_aload_n rfl rfl ?_
  refine mm_new rfl rfl rfl wd_172 wd_27 wd_3 (by decide) (by decide) ?_
  refine mm_dup rfl rfl ?_
  refine mm_isI0 (M2 := qL_init) wd_173 qL_init_k (by decide) (sL_init rfl rfl) (Nat.le_of_ble_eq_true rfl) (by decide) (by decide) rfl (by decide) ?_
  refine mm_putR rfl rfl rfl (by decide) rfl (Or.inr ⟨rfl, rfl⟩) rfl rfl ?_
  refine mm_aload_n rfl rfl ?_
  refine mm_iconst (v := nI 1) rfl (by decide) ?_
  refine mm_putI rfl rfl rfl (by decide) rfl (Or.inl rfl) rfl rfl ?_
  refine mm_aload_n rfl rfl ?_
  refine mm_bipush (v := -2) rfl (by decide) ?_
  refine mm_putI rfl rfl rfl (by decide) rfl (Or.inl rfl) rfl rfl ?_
  refine mm_return rfl rfl (by decide) (by decide) ?_
  exact ⟨rfl, rfl, rfl, rfl⟩
def mm_jR (J : mm_J) : mm_J := (mm_set (mm_set (mm_set (mm_set (mm_set (mm_set (mm_z (mm_z (mm_z (mm_z (mm_z (mm_z (mm_z (mm_z (mm_z (mm_z (mm_z (mm_z (mm_z (mm_set (mm_set (mm_set (mm_z (mm_z (mm_z J 70) 71) 72) 69 6 (-2)) 69 7 (nI 1)) 69 8 (-2)) 73) 74) 75) 76) 77) 78) 79) 80) 81) 82) 83) 84) 85) 69 33 (nI 10)) 69 34 (nI 4)) 73 0 (-2)) 73 (0 + 1) (-2)) 73 ((0 + 1) + 1) (-2)) 73 (((0 + 1) + 1) + 1) (-2))
def mm_gR (G : mm_G) : mm_G := (mm_sg (mm_zg (mm_sg (mm_zg (mm_sg (mm_zg (mm_sg (mm_zg (mm_sg (mm_zg (mm_sg (mm_zg (mm_sg (mm_zg (mm_sg (mm_zg (mm_sg (mm_zg (mm_sg (mm_zg (mm_sg (mm_zg (mm_sg (mm_zg (mm_sg (mm_zg (mm_sg (mm_zg (mm_sg (mm_zg (mm_sg (mm_zg G 70) 69 0 (some 70)) 71) 69 1 (some 71)) 72) 69 2 (some 72)) 73) 69 10 (some 73)) 74) 69 11 (some 74)) 75) 69 12 (some 75)) 76) 69 13 (some 76)) 77) 69 18 (some 77)) 78) 69 19 (some 78)) 79) 69 20 (some 79)) 80) 69 21 (some 80)) 81) 69 22 (some 81)) 82) 69 25 (some 82)) 83) 69 26 (some 83)) 84) 69 28 (some 84)) 85) 69 30 (some 85))
set_option maxRecDepth 100000 in
set_option maxHeartbeats 4000000 in
theorem sR_init {E : mm_E} {G : mm_G} {J : mm_J}  : mm_Ret E qR_init [.ref 69] 70 J G none 86 (mm_jR J) (mm_gR G) := by
  refine mm_Met.of qR_init_ok (by decide) (mm_cats rfl) (Nat.le_of_ble_eq_true rfl) ?_
  refine mm_aload_n rfl rfl ?_
  refine mm_objInit rfl wd_501 wd_18 wd_19 (by decide) (Nat.le_of_ble_eq_true rfl) ?_
  refine mm_aload_n rfl rfl ?_
  refine mm_bipush (v := nI 100) rfl (by decide) ?_
  refine mm_newa rfl rfl (by decide) rfl rfl rfl wd_46 (by decide) (by decide) (by decide) (by decide) (by decide) ?_
  refine mm_putR rfl rfl rfl (by decide) rfl (Or.inr ⟨rfl, rfl⟩) rfl rfl ?_
  refine mm_aload_n rfl rfl ?_
  refine mm_bipush (v := nI 100) rfl (by decide) ?_
  refine mm_newa rfl rfl (by decide) rfl rfl rfl wd_46 (by decide) (by decide) (by decide) (by decide) (by decide) ?_
  refine mm_putR rfl rfl rfl (by decide) rfl (Or.inr ⟨rfl, rfl⟩) rfl rfl ?_
  refine mm_aload_n rfl rfl ?_
  refine mm_bipush (v := nI 100) rfl (by decide) ?_
  refine mm_newa rfl rfl (by decide) rfl rfl rfl wd_46 (by decide) (by decide) (by decide) (by decide) (by decide) ?_
  refine mm_putR rfl rfl rfl (by decide) rfl (Or.inr ⟨rfl, rfl⟩) rfl rfl ?_
  refine mm_aload_n rfl rfl ?_
  refine mm_bipush (v := -2) rfl (by decide) ?_
  refine mm_putI rfl rfl rfl (by decide) rfl (Or.inl rfl) rfl rfl ?_
  refine mm_aload_n rfl rfl ?_
  refine mm_iconst (v := nI 1) rfl (by decide) ?_
  refine mm_putI rfl rfl rfl (by decide) rfl (Or.inl rfl) rfl rfl ?_
  refine mm_aload_n rfl rfl ?_
  refine mm_bipush (v := -2) rfl (by decide) ?_
  refine mm_putI rfl rfl rfl (by decide) rfl (Or.inl rfl) rfl rfl ?_
  refine mm_aload_n rfl rfl ?_
  refine mm_iconst (v := nI 4) rfl (by decide) ?_
  refine mm_newa rfl rfl (by decide) rfl rfl rfl wd_46 (by decide) (by decide) (by decide) (by decide) (by decide) ?_
  refine mm_putR rfl rfl rfl (by decide) rfl (Or.inr ⟨rfl, rfl⟩) rfl rfl ?_
  refine mm_aload_n rfl rfl ?_
  refine mm_iconst (v := nI 4) rfl (by decide) ?_
  refine mm_newa rfl rfl (by decide) rfl rfl rfl wd_66 (by decide) (by decide) (by decide) (by decide) (by decide) ?_
  refine mm_putR rfl rfl rfl (by decide) rfl (Or.inr ⟨rfl, rfl⟩) rfl rfl ?_
  refine mm_aload_n rfl rfl ?_
  refine mm_sipush (v := nI 400) rfl (by decide) ?_
  refine mm_newa rfl rfl (by decide) rfl rfl rfl wd_46 (by decide) (by decide) (by decide) (by decide) (by decide) ?_
  refine mm_putR rfl rfl rfl (by decide) rfl (Or.inr ⟨rfl, rfl⟩) rfl rfl ?_
  refine mm_aload_n rfl rfl ?_
  refine mm_iconst (v := nI 4) rfl (by decide) ?_
  refine mm_newa rfl rfl (by decide) rfl rfl rfl wd_46 (by decide) (by decide) (by decide) (by decide) (by decide) ?_
  refine mm_putR rfl rfl rfl (by decide) rfl (Or.inr ⟨rfl, rfl⟩) rfl rfl ?_
  refine mm_aload_n rfl rfl ?_
  refine mm_sipush (v := nI 2000) rfl (by decide) ?_
  refine mm_newa rfl rfl (by decide) rfl rfl rfl wd_46 (by decide) (by decide) (by decide) (by decide) (by decide) ?_
  refine mm_putR rfl rfl rfl (by decide) rfl (Or.inr ⟨rfl, rfl⟩) rfl rfl ?_
  refine mm_aload_n rfl rfl ?_
  refine mm_bipush (v := nI 20) rfl (by decide) ?_
  refine mm_newa rfl rfl (by decide) rfl rfl rfl wd_46 (by decide) (by decide) (by decide) (by decide) (by decide) ?_
  refine mm_putR rfl rfl rfl (by decide) rfl (Or.inr ⟨rfl, rfl⟩) rfl rfl ?_
  refine mm_aload_n rfl rfl ?_
  refine mm_bipush (v := nI 20) rfl (by decide) ?_
  refine mm_newa rfl rfl (by decide) rfl rfl rfl wd_46 (by decide) (by decide) (by decide) (by decide) (by decide) ?_
  refine mm_putR rfl rfl rfl (by decide) rfl (Or.inr ⟨rfl, rfl⟩) rfl rfl ?_
  refine mm_aload_n rfl rfl ?_
  refine mm_bipush (v := nI 20) rfl (by decide) ?_
  refine mm_newa rfl rfl (by decide) rfl rfl rfl wd_46 (by decide) (by decide) (by decide) (by decide) (by decide) ?_
  refine mm_putR rfl rfl rfl (by decide) rfl (Or.inr ⟨rfl, rfl⟩) rfl rfl ?_
  refine mm_aload_n rfl rfl ?_
  refine mm_bipush (v := nI 20) rfl (by decide) ?_
  refine mm_newa rfl rfl (by decide) rfl rfl rfl wd_46 (by decide) (by decide) (by decide) (by decide) (by decide) ?_
  refine mm_putR rfl rfl rfl (by decide) rfl (Or.inr ⟨rfl, rfl⟩) rfl rfl ?_
  refine mm_aload_n rfl rfl ?_
  refine mm_bipush (v := nI 72) rfl (by decide) ?_
  refine mm_newa rfl rfl (by decide) rfl rfl rfl wd_46 (by decide) (by decide) (by decide) (by decide) (by decide) ?_
  refine mm_putR rfl rfl rfl (by decide) rfl (Or.inr ⟨rfl, rfl⟩) rfl rfl ?_
  refine mm_aload_n rfl rfl ?_
  refine mm_bipush (v := nI 24) rfl (by decide) ?_
  refine mm_newa rfl rfl (by decide) rfl rfl rfl wd_46 (by decide) (by decide) (by decide) (by decide) (by decide) ?_
  refine mm_putR rfl rfl rfl (by decide) rfl (Or.inr ⟨rfl, rfl⟩) rfl rfl ?_
  refine mm_aload_n rfl rfl ?_
  refine mm_iconst (v := nI 3) rfl (by decide) ?_
  refine mm_newa rfl rfl (by decide) rfl rfl rfl wd_46 (by decide) (by decide) (by decide) (by decide) (by decide) ?_
  refine mm_putR rfl rfl rfl (by decide) rfl (Or.inr ⟨rfl, rfl⟩) rfl rfl ?_
  refine mm_aload_n rfl rfl ?_
  refine mm_bipush (v := nI 12) rfl (by decide) ?_
  refine mm_newa rfl rfl (by decide) rfl rfl rfl wd_46 (by decide) (by decide) (by decide) (by decide) (by decide) ?_
  refine mm_putR rfl rfl rfl (by decide) rfl (Or.inr ⟨rfl, rfl⟩) rfl rfl ?_
  refine mm_aload_n rfl rfl ?_
  refine mm_bipush (v := nI 10) rfl (by decide) ?_
  refine mm_putI rfl rfl rfl (by decide) rfl (Or.inl rfl) rfl rfl ?_
  refine mm_aload_n rfl rfl ?_
  refine mm_iconst (v := nI 4) rfl (by decide) ?_
  refine mm_putI rfl rfl rfl (by decide) rfl (Or.inl rfl) rfl rfl ?_
  refine mm_iconst (v := nI 0) rfl (by decide) ?_
  refine mm_istore_n rfl (by decide) ?_
  refine mm_iload_n rfl rfl ?_
  refine mm_iconst (v := nI 4) rfl (by decide) ?_
  refine mm_icmp_geN (tgt := 179) rfl (by decide) (by decide) (by decide) (fun h => absurd h (by decide)) (fun _ => ?_)
  refine mm_aload_n rfl rfl ?_
  refine mm_getR rfl rfl rfl (by decide) rfl rfl ?_
  refine mm_iload_n rfl rfl ?_
  refine mm_bipush (v := -2) rfl (by decide) ?_
  refine mm_wrN rfl (by decide) rfl (by decide) (by omega) (by decide) rfl ?_
  refine mm_iincN rfl rfl (mm_inc1 _) (by decide) ?_
  refine mm_goto (tgt := 160) rfl (by decide) ?_
  refine mm_iload_n rfl rfl ?_
  refine mm_iconst (v := nI 4) rfl (by decide) ?_
  refine mm_icmp_geN (tgt := 179) rfl (by decide) (by decide) (by decide) (fun h => absurd h (by decide)) (fun _ => ?_)
  refine mm_aload_n rfl rfl ?_
  refine mm_getR rfl rfl rfl (by decide) rfl rfl ?_
  refine mm_iload_n rfl rfl ?_
  refine mm_bipush (v := -2) rfl (by decide) ?_
  refine mm_wrN rfl (by decide) rfl (by decide) (by omega) (by decide) rfl ?_
  refine mm_iincN rfl rfl (mm_inc1 _) (by decide) ?_
  refine mm_goto (tgt := 160) rfl (by decide) ?_
  refine mm_iload_n rfl rfl ?_
  refine mm_iconst (v := nI 4) rfl (by decide) ?_
  refine mm_icmp_geN (tgt := 179) rfl (by decide) (by decide) (by decide) (fun h => absurd h (by decide)) (fun _ => ?_)
  refine mm_aload_n rfl rfl ?_
  refine mm_getR rfl rfl rfl (by decide) rfl rfl ?_
  refine mm_iload_n rfl rfl ?_
  refine mm_bipush (v := -2) rfl (by decide) ?_
  refine mm_wrN rfl (by decide) rfl (by decide) (by omega) (by decide) rfl ?_
  refine mm_iincN rfl rfl (mm_inc1 _) (by decide) ?_
  refine mm_goto (tgt := 160) rfl (by decide) ?_
  refine mm_iload_n rfl rfl ?_
  refine mm_iconst (v := nI 4) rfl (by decide) ?_
  refine mm_icmp_geN (tgt := 179) rfl (by decide) (by decide) (by decide) (fun h => absurd h (by decide)) (fun _ => ?_)
  refine mm_aload_n rfl rfl ?_
  refine mm_getR rfl rfl rfl (by decide) rfl rfl ?_
  refine mm_iload_n rfl rfl ?_
  refine mm_bipush (v := -2) rfl (by decide) ?_
  refine mm_wrN rfl (by decide) rfl (by decide) (by omega) (by decide) rfl ?_
  refine mm_iincN rfl rfl (mm_inc1 _) (by decide) ?_
  refine mm_goto (tgt := 160) rfl (by decide) ?_
  refine mm_iload_n rfl rfl ?_
  refine mm_iconst (v := nI 4) rfl (by decide) ?_
  refine mm_icmp_geN (tgt := 179) rfl (by decide) (by decide) (by decide) (fun _ => ?_) (fun h => absurd h (by decide))
  refine mm_return rfl rfl (by decide) (by decide) ?_
  exact ⟨rfl, rfl, rfl, rfl⟩
def ed_z0 : mm_J := fun a k => if (a = 4 ∧ k < 5) ∨ (a = 73 ∧ k < 4) ∨ (a = 0 ∧ k = 8) ∨ (a = 69 ∧ (k = 6 ∨ k = 8)) then -2 else if (a = 0 ∧ k = 7) ∨ (a = 69 ∧ k = 7) then nI 1 else if (a = 66 ∧ k = 0) ∨ (a = 69 ∧ k = 33) then nI 10 else if (a = 66 ∧ k = 1) ∨ (a = 69 ∧ k = 34) then nI 4 else nI 0
def ed_J0 (J : mm_J) : mm_J := mm_jR (mm_z (mm_jE (mm_z J 0)) 69)
def ed_G0 (G : mm_G) : mm_G := mm_gR (mm_zg (mm_gE (mm_zg G 0)) 69)
theorem ed_J0_at (J : mm_J) {a : Nat} (ha : a < 86) : ed_J0 J a = ed_z0 a := by
  funext k
  obtain rfl | rfl | rfl | rfl | rfl | rfl | rfl | rfl | rfl | rfl | rfl | rfl | rfl | rfl | rfl | rfl | rfl | rfl | rfl | rfl | rfl | rfl | rfl | rfl | rfl | rfl | rfl | rfl | rfl | rfl | rfl | rfl | rfl | rfl | rfl | rfl | rfl | rfl | rfl | rfl | rfl | rfl | rfl | rfl | rfl | rfl | rfl | rfl | rfl | rfl | rfl | rfl | rfl | rfl | rfl | rfl | rfl | rfl | rfl | rfl | rfl | rfl | rfl | rfl | rfl | rfl | rfl | rfl | rfl | rfl | rfl | rfl | rfl | rfl | rfl | rfl | rfl | rfl | rfl | rfl | rfl | rfl | rfl | rfl | rfl | rfl : a = 0 ∨ a = 1 ∨ a = 2 ∨ a = 3 ∨ a = 4 ∨ a = 5 ∨ a = 6 ∨ a = 7 ∨ a = 8 ∨ a = 9 ∨ a = 10 ∨ a = 11 ∨ a = 12 ∨ a = 13 ∨ a = 14 ∨ a = 15 ∨ a = 16 ∨ a = 17 ∨ a = 18 ∨ a = 19 ∨ a = 20 ∨ a = 21 ∨ a = 22 ∨ a = 23 ∨ a = 24 ∨ a = 25 ∨ a = 26 ∨ a = 27 ∨ a = 28 ∨ a = 29 ∨ a = 30 ∨ a = 31 ∨ a = 32 ∨ a = 33 ∨ a = 34 ∨ a = 35 ∨ a = 36 ∨ a = 37 ∨ a = 38 ∨ a = 39 ∨ a = 40 ∨ a = 41 ∨ a = 42 ∨ a = 43 ∨ a = 44 ∨ a = 45 ∨ a = 46 ∨ a = 47 ∨ a = 48 ∨ a = 49 ∨ a = 50 ∨ a = 51 ∨ a = 52 ∨ a = 53 ∨ a = 54 ∨ a = 55 ∨ a = 56 ∨ a = 57 ∨ a = 58 ∨ a = 59 ∨ a = 60 ∨ a = 61 ∨ a = 62 ∨ a = 63 ∨ a = 64 ∨ a = 65 ∨ a = 66 ∨ a = 67 ∨ a = 68 ∨ a = 69 ∨ a = 70 ∨ a = 71 ∨ a = 72 ∨ a = 73 ∨ a = 74 ∨ a = 75 ∨ a = 76 ∨ a = 77 ∨ a = 78 ∨ a = 79 ∨ a = 80 ∨ a = 81 ∨ a = 82 ∨ a = 83 ∨ a = 84 ∨ a = 85 := by omega
  · show (if 0 = 0 ∧ k = 8 then (-2 : Int32) else if 0 = 0 ∧ k = 7 then nI 1 else 0) = ed_z0 0 k
    unfold ed_z0
    (repeat' split) <;> first | rfl | (exfalso; omega)
  · rfl
  · rfl
  · rfl
  · show (if 4 = 4 ∧ k < 5 then (-2 : Int32) else 0) = ed_z0 4 k
    unfold ed_z0
    (repeat' split) <;> first | rfl | (exfalso; omega)
  · rfl
  · rfl
  · rfl
  · rfl
  · rfl
  · rfl
  · rfl
  · rfl
  · rfl
  · rfl
  · rfl
  · rfl
  · rfl
  · rfl
  · rfl
  · rfl
  · rfl
  · rfl
  · rfl
  · rfl
  · rfl
  · rfl
  · rfl
  · rfl
  · rfl
  · rfl
  · rfl
  · rfl
  · rfl
  · rfl
  · rfl
  · rfl
  · rfl
  · rfl
  · rfl
  · rfl
  · rfl
  · rfl
  · rfl
  · rfl
  · rfl
  · rfl
  · rfl
  · rfl
  · rfl
  · rfl
  · rfl
  · rfl
  · rfl
  · rfl
  · rfl
  · rfl
  · rfl
  · rfl
  · rfl
  · rfl
  · rfl
  · rfl
  · rfl
  · rfl
  · rfl
  · show (if 66 = 66 ∧ k = 1 then nI 4 else if 66 = 66 ∧ k = 0 then nI 10 else 0) = ed_z0 66 k
    unfold ed_z0
    (repeat' split) <;> first | rfl | (exfalso; omega)
  · rfl
  · rfl
  · show (if 69 = 69 ∧ k = 34 then nI 4 else if 69 = 69 ∧ k = 33 then nI 10 else if 69 = 69 ∧ k = 8 then (-2 : Int32) else if 69 = 69 ∧ k = 7 then nI 1 else if 69 = 69 ∧ k = 6 then (-2 : Int32) else 0) = ed_z0 69 k
    unfold ed_z0
    (repeat' split) <;> first | rfl | (exfalso; omega)
  · rfl
  · rfl
  · rfl
  · show (if 73 = 73 ∧ k = 0 + 1 + 1 + 1 then (-2 : Int32) else if 73 = 73 ∧ k = 0 + 1 + 1 then (-2 : Int32) else if 73 = 73 ∧ k = 0 + 1 then (-2 : Int32) else if 73 = 73 ∧ k = 0 then (-2 : Int32) else 0) = ed_z0 73 k
    unfold ed_z0
    (repeat' split) <;> first | rfl | (exfalso; omega)
  · rfl
  · rfl
  · rfl
  · rfl
  · rfl
  · rfl
  · rfl
  · rfl
  · rfl
  · rfl
  · rfl
  · rfl
theorem ed_lets : ∀ x, x < 86 → mm_SH x = .inl 2 → x ∈ [2, 8, 10, 12, 14, 20, 22, 24, 26, 28, 30, 32, 34, 36, 38, 40, 42, 44, 46, 48, 50, 52, 54, 56, 58, 67] := by decide
theorem ed_G0_GI (G : mm_G) : mm_GI (ed_G0 G) := by
  refine ⟨fun x hx => ?_, fun i hi => ?_, ?_⟩
  · have h := ed_lets x (mm_lt hx) hx
    simp only [List.mem_cons, List.not_mem_nil, or_false] at h
    rcases h with rfl | rfl | rfl | rfl | rfl | rfl | rfl | rfl | rfl | rfl | rfl | rfl | rfl | rfl | rfl | rfl | rfl | rfl | rfl | rfl | rfl | rfl | rfl | rfl | rfl | rfl <;> rfl
  · obtain rfl | rfl | rfl | rfl | rfl | rfl | rfl | rfl | rfl | rfl | rfl | rfl | rfl | rfl | rfl | rfl | rfl | rfl | rfl | rfl : i = 0 ∨ i = 1 ∨ i = 2 ∨ i = 3 ∨ i = 4 ∨ i = 5 ∨ i = 6 ∨ i = 7 ∨ i = 8 ∨ i = 9 ∨ i = 10 ∨ i = 11 ∨ i = 12 ∨ i = 13 ∨ i = 14 ∨ i = 15 ∨ i = 16 ∨ i = 17 ∨ i = 18 ∨ i = 19 := by omega
    · rfl
    · rfl
    · rfl
    · rfl
    · rfl
    · rfl
    · rfl
    · rfl
    · rfl
    · rfl
    · rfl
    · rfl
    · rfl
    · rfl
    · rfl
    · rfl
    · rfl
    · rfl
    · rfl
    · rfl
  · unfold mm_lkL
    repeat (refine List.forall_mem_cons.mpr ⟨rfl, ?_⟩)
    exact fun q hq => absurd hq List.not_mem_nil
theorem ed_G0_7 (G : mm_G) {i : Nat} (hi : i < 4) : ed_G0 G 7 i = some (8 + 2 * i) := by
  obtain rfl | rfl | rfl | rfl : i = 0 ∨ i = 1 ∨ i = 2 ∨ i = 3 := by omega
  · rfl
  · rfl
  · rfl
  · rfl
theorem ed_z0_0 {a k : Nat} (h : ¬ (a = 4 ∨ a = 73 ∨ a = 0 ∨ a = 69 ∨ a = 66)) : ed_z0 a k = nI 0 := by
  unfold ed_z0
  rw [if_neg (by omega), if_neg (by omega), if_neg (by omega), if_neg (by omega)]
def ed_v0 : ed_V := ((0, (fun _ => 0), 0), (-2, (fun _ => -2), (fun _ => nI 0)), (0, (fun _ => 0), (fun _ _ => 0)), (0, (fun _ => 0), (fun _ => 0), (fun _ => 0), (fun _ => 0), (fun _ _ => 0)), (1, -2, 0, 0, 0, 0, 0), (0, 0, (fun _ => false), (fun _ => 0)), (10, 4, 0), ([], 0))
theorem ed_first {X : mm_J} {G : mm_G} (e : ∀ {a : Nat}, a < 86 → X a = ed_z0 a) (hG : mm_GI G) (h7 : ∀ {i : Nat}, i < 4 → G 7 i = some (8 + 2 * i)) : ed_SS ed_v0 X G := by
  have e0 : ∀ a k, a < 86 → ¬ (a = 4 ∨ a = 73 ∨ a = 0 ∨ a = 69 ∨ a = 66) → X a k = nI 0 := fun a k h1 h2 => (congrFun (e h1) k).trans (ed_z0_0 h2)
  have e1 : ∀ a k x, a < 86 → ed_z0 a k = x → X a k = x := fun a k x h1 h2 => (congrFun (e h1) k).trans h2
  refine ⟨⟨hG, ⟨e1 2 1 _ (by decide) rfl, fun i hi => absurd hi (Nat.not_lt_zero i), e1 1 3 _ (by decide) rfl⟩, ⟨e1 4 4 _ (by decide) rfl, fun i hi => e1 4 i _ (by decide) (if_pos (Or.inl ⟨rfl, by omega⟩)), e1 5 4 _ (by decide) rfl, fun i hi => e0 5 i (by decide) (by decide)⟩, ⟨e1 6 1 _ (by decide) rfl, fun i => 8 + 2 * i, fun i j _ _ h => by dsimp only at h; omega, fun i hi => ⟨h7 hi, ?_, e0 (8 + 2 * i) 1 (by omega) (by omega), fun j hj => absurd hj (Nat.not_lt_zero j)⟩⟩, ⟨e1 16 3 _ (by decide) rfl, fun j hj => ⟨e0 17 j (by decide) (by decide), e0 18 j (by decide) (by decide), e0 (20 + 2 * j) 1 (by omega) (by omega), fun i hi => absurd hi (Nat.not_lt_zero i)⟩⟩, ⟨e1 0 7 _ (by decide) rfl, e1 0 8 _ (by decide) rfl, e1 0 9 _ (by decide) rfl, e1 0 10 _ (by decide) rfl, e1 0 11 _ (by decide) rfl⟩, ⟨e1 63 2 _ (by decide) rfl, e1 63 3 _ (by decide) rfl, fun i hi => absurd hi (Nat.not_lt_zero i)⟩, ⟨e1 66 0 _ (by decide) rfl, e1 66 1 _ (by decide) rfl, e1 66 2 _ (by decide) rfl⟩, e1 60 2 _ (by decide) rfl, List.Perm.refl _, e1 60 3 _ (by decide) rfl⟩, ?_, ?_, ?_⟩
  · have : i = 0 ∨ i = 1 ∨ i = 2 ∨ i = 3 := by omega
    unfold ed_kx
    dsimp only
    omega
  · refine ⟨⟨e1 69 3 _ (by decide) rfl, fun i hi => absurd hi (Nat.not_lt_zero i), e1 69 5 _ (by decide) rfl⟩, ⟨e1 69 6 _ (by decide) rfl, fun i hi => e1 73 i _ (by decide) (if_pos (Or.inr (Or.inl ⟨rfl, hi⟩))), fun i hi => e0 74 i (by decide) (by decide)⟩, ⟨e1 69 14 _ (by decide) rfl, fun i hi => ⟨e0 76 i (by decide) (by decide), fun j hj => absurd hj (Nat.not_lt_zero j)⟩⟩, ⟨e1 69 23 _ (by decide) rfl, fun j hj => ⟨e0 79 j (by decide) (by decide), e0 81 j (by decide) (by decide), e0 80 j (by decide) (by decide), fun i hi => absurd hi (Nat.not_lt_zero i)⟩⟩, ⟨e1 69 7 _ (by decide) rfl, e1 69 8 _ (by decide) rfl, e1 69 9 _ (by decide) rfl, e1 69 17 _ (by decide) rfl, e1 69 24 _ (by decide) rfl, e1 69 15 _ (by decide) rfl, e1 69 16 _ (by decide) rfl⟩, ⟨e1 69 31 _ (by decide) rfl, e1 69 32 _ (by decide) rfl, fun i hi => absurd hi (Nat.not_lt_zero i)⟩, ⟨e1 69 33 _ (by decide) rfl, e1 69 34 _ (by decide) rfl, e1 69 35 _ (by decide) rfl⟩, e1 69 27 _ (by decide) rfl, List.Perm.refl _, e1 69 29 _ (by decide) rfl, fun i hi => absurd hi (Nat.not_lt_zero i)⟩
  · refine ⟨⟨Nat.zero_le _, Nat.le_refl _⟩, ⟨Or.inl rfl, fun i _ => ⟨Or.inl rfl, 0, by decide, rfl⟩⟩, ⟨Nat.zero_le _, fun i _ => Nat.zero_le _⟩, ⟨fun j _ => ⟨Nat.zero_le _, Nat.le_refl _, Nat.zero_le _⟩, fun h => absurd h (by decide), fun u h1 h2 _ => absurd h2 (Nat.not_succ_le_zero u)⟩, ⟨Nat.le_refl _, by decide, Nat.zero_le _⟩, ⟨Nat.zero_le _, by decide, fun i hi => absurd hi (Nat.not_lt_zero i)⟩, ⟨by decide, by decide, by decide, by decide, by decide⟩, ⟨Nat.zero_le _, fun e he => absurd he List.not_mem_nil, fun e he => absurd he List.not_mem_nil, List.nodup_nil, Or.inl rfl⟩⟩
  · exact ⟨fun q => absurd q (by decide), fun q => absurd q (by decide), fun q => absurd q (by decide)⟩
