set_option maxRecDepth 100000 in
set_option maxHeartbeats 4000000 in
theorem sL_clear {E : mm_E} {G : mm_G} {J : mm_J} (hG : mm_GI G) {x : Nat} (hx : mm_SH x = .inl 2) : mm_Ret E qL_clear [.ref x] 86 J G none 86 (mm_set J x 1 (nI 0)) G := by
  refine mm_Met.of qL_clear_ok (by decide) (mm_cats rfl) (Nat.le_of_ble_eq_true rfl) ?_
  refine mm_aload_n rfl rfl ?_
  refine mm_iconst (v := nI 0) rfl (by decide) ?_
  refine mm_putI rfl rfl hx (mm_l1 hx) rfl (Or.inl rfl) rfl rfl ?_
  refine mm_return rfl rfl (by decide) (by decide) ?_
  exact ⟨rfl, rfl, rfl, rfl⟩
set_option maxRecDepth 100000 in
set_option maxHeartbeats 4000000 in
theorem sL_add {E : mm_E} {G : mm_G} {J : mm_J} (hG : mm_GI G) {x : Nat} (hx : mm_SH x = .inl 2) {k : Nat} {c : Int32} (hk : J x 1 = nI k) (hk2 : k < 100) : mm_Ret E qL_add [.ref x, .int c] 86 J G none 86 (mm_set (mm_set J (x + 1) k c) x 1 (nI (k + 1))) G := by
  refine mm_Met.of qL_add_ok (by decide) (mm_cats rfl) (Nat.le_of_ble_eq_true rfl) ?_
  refine mm_aload_n rfl rfl ?_
  refine mm_getI (x := nI k) rfl rfl hx (mm_l1 hx) rfl hk ?_
  refine mm_bipush (v := nI 100) rfl (by decide) ?_
  refine mm_icmp_geN (tgt := 29) rfl (by decide) (by omega) (by omega) (fun h6 => ?_) (fun h6 => ?_)
  · exact absurd h6 (by omega)
  · refine mm_aload_n rfl rfl ?_
    refine mm_getR rfl rfl hx (mm_l1 hx) rfl (hG.1 _ hx) ?_
    refine mm_aload_n rfl rfl ?_
    refine mm_getI (x := nI k) rfl rfl hx (mm_l1 hx) rfl hk ?_
    refine mm_iload_n rfl rfl ?_
    refine mm_wrN (mm_l2 hx) (by decide) rfl (mm_l3 hx) (by omega) (by decide) rfl ?_
    refine mm_aload_n rfl rfl ?_
    refine mm_dup rfl rfl ?_
    refine mm_getI (x := nI k) rfl rfl hx (mm_l1 hx) rfl (by simp [mm_set, mm_cp, hk]) ?_
    refine mm_iconst (v := nI 1) rfl (by decide) ?_
    refine mm_iaddN rfl ?_
    refine mm_putI rfl rfl hx (mm_l1 hx) rfl (Or.inl rfl) rfl rfl ?_
    refine mm_return rfl rfl (by decide) (by decide) ?_
    exact ⟨rfl, rfl, rfl, rfl⟩
set_option maxRecDepth 100000 in
set_option maxHeartbeats 4000000 in
theorem sL_append {E : mm_E} {G : mm_G} {J : mm_J} (hG : mm_GI G) {x : Nat} (hx : mm_SH x = .inl 2) {y : Nat} (hy : mm_SH y = .inl 2) (hxy : x ≠ y) {k m a b : Nat} (hk : J x 1 = nI k) (hm : J y 1 = nI m) (hab : a ≤ b) (hbm : b ≤ m) (hm2 : m ≤ 100) (hkb : k + (b - a) ≤ 100) : mm_Ret E qL_append [.ref x, .ref y, .int (nI a), .int (nI b)] 86 J G none 86 (mm_set (mm_cp J (y + 1) (x + 1) a k (b - a)) x 1 (nI (k + (b - a)))) G := by
  refine mm_Met.of qL_append_ok (by decide) (mm_cats rfl) (Nat.le_of_ble_eq_true rfl) ?_
  refine mm_iload_n rfl rfl ?_
  refine mm_iload_n rfl rfl ?_
  refine mm_isubN rfl (by omega) ?_
  refine mm_istore rfl (by decide) ?_
  refine mm_iload_n rfl rfl ?_
  refine mm_if_ltN (tgt := 34) rfl (by decide) (by omega) ?_
  refine mm_iload rfl rfl ?_
  refine mm_if_ltN (tgt := 34) rfl (by decide) (by omega) ?_
  refine mm_iload_n rfl rfl ?_
  refine mm_aload_n rfl rfl ?_
  refine mm_getI (x := nI m) rfl rfl hy (mm_l1 hy) rfl hm ?_
  refine mm_icmp_gtN (tgt := 34) rfl (by decide) (by omega) (by omega) (fun h19 => ?_) (fun h19 => ?_)
  · exact absurd h19 (by omega)
  · refine mm_aload_n rfl rfl ?_
    refine mm_getI (x := nI k) rfl rfl hx (mm_l1 hx) rfl hk ?_
    refine mm_iload rfl rfl ?_
    refine mm_iaddN rfl ?_
    refine mm_bipush (v := nI 100) rfl (by decide) ?_
    refine mm_icmp_leN (tgt := 35) rfl (by decide) (by omega) (by omega) (fun h31 => ?_) (fun h31 => ?_)
    · refine mm_aload_n rfl rfl ?_
      refine mm_getR rfl rfl hy (mm_l1 hy) rfl (hG.1 _ hy) ?_
      refine mm_iload_n rfl rfl ?_
      refine mm_aload_n rfl rfl ?_
      refine mm_getR rfl rfl hx (mm_l1 hx) rfl (hG.1 _ hx) ?_
      refine mm_aload_n rfl rfl ?_
      refine mm_getI (x := nI k) rfl rfl hx (mm_l1 hx) rfl hk ?_
      refine mm_iload rfl rfl ?_
      refine mm_copy rfl wd_253 wd_255 wd_254 wd_11 (mm_l2 hy) (mm_l2 hx) (by decide) rfl (mm_l3 hy) (mm_l3 hx) (nI_pos (by omega)) (nI_pos (by omega)) (nI_pos (by omega)) (by rw [nI_clamp (by omega), nI_clamp (by omega)]; omega) (by rw [nI_clamp (by omega), nI_clamp (by omega)]; omega) (by decide) (Nat.le_of_ble_eq_true rfl) ?_
      rw [nI_clamp (by omega), nI_clamp (by omega), nI_clamp (by omega)]
      refine mm_aload_n rfl rfl ?_
      refine mm_dup rfl rfl ?_
      refine mm_getI (x := nI k) rfl rfl hx (mm_l1 hx) rfl (by simp [mm_set, mm_cp, hk]) ?_
      refine mm_iload rfl rfl ?_
      refine mm_iaddN rfl ?_
      refine mm_putI rfl rfl hx (mm_l1 hx) rfl (Or.inl rfl) rfl rfl ?_
      refine mm_return rfl rfl (by decide) (by decide) ?_
      exact ⟨rfl, rfl, rfl, rfl⟩
    · exact absurd h31 (by omega)
