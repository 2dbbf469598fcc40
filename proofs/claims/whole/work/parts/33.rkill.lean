def ed_sh1 (J : mm_J) (k : Nat) : mm_J := mm_cp (mm_set J 76 k (J 76 (k - 1))) 75 75 (k * 100 - 100) (k * 100) 100
def ed_shift (J : mm_J) : mm_J := mm_set (ed_sh1 (ed_sh1 (ed_sh1 J 3) 2) 1) 76 0 (nI 0)
theorem mm_cp_rd {J : mm_J} {b sp dp i k : Nat} (h : k < dp ∨ dp + i ≤ k) : mm_cp J b b sp dp i b k = J b k := by
  unfold mm_cp va_cpy
  simp [show ¬ (dp ≤ k ∧ k < dp + i) by omega]
theorem ed_sh1_o {J : mm_J} {k a : Nat} (h : ¬ a = 75 ∧ ¬ a = 76) : ed_sh1 J k a = J a := by
  funext b
  simp [ed_sh1, mm_cp, mm_set, h.1, h.2]
theorem ed_shift_o {J : mm_J} {a : Nat} (h : ¬ a = 75 ∧ ¬ a = 76) : ed_shift J a = J a := by
  unfold ed_shift
  rw [mm_set_ne _ _ _ h.2, ed_sh1_o h, ed_sh1_o h, ed_sh1_o h]
set_option maxRecDepth 100000 in
set_option maxHeartbeats 4000000 in
theorem lR_keepI {E : mm_E} {G : mm_G} {J : mm_J} (hG : mm_GI G) {a d k : Nat} {F : mm_F} (hk1 : 1 ≤ k) (hk3 : k ≤ 3) (kk : mm_Go E qR_keep 91 [some (.ref 69), some (.int (nI a)), some (.int (nI d)), some (.int (nI 0)), some (.int (nI k)), some (.int (nI 100))] [] 86 (mm_cp J 75 75 (k * 100 - 100) (k * 100) 100) G 0 0 F) : ∀ (q i : Nat), 100 - i = q → i ≤ 100 → mm_Go E qR_keep 49 [some (.ref 69), some (.int (nI a)), some (.int (nI d)), some (.int (nI 0)), some (.int (nI k)), some (.int (nI i))] [] 86 (mm_cp J 75 75 (k * 100 - 100) (k * 100) i) G 0 0 F
  | 0, i, hq, hi => by
    refine mm_iload rfl rfl ?_
    refine mm_bipush (v := nI 100) rfl (by decide) ?_
    refine mm_icmp_geN (tgt := 91) rfl (by decide) (by omega) (by omega) (fun h53 => ?_) (fun h53 => ?_)
    · obtain rfl : 100 = i := by omega
      exact kk
    · exact absurd h53 (by omega)
  | q + 1, i, hq, hi => by
    refine mm_iload rfl rfl ?_
    refine mm_bipush (v := nI 100) rfl (by decide) ?_
    refine mm_icmp_geN (tgt := 91) rfl (by decide) (by omega) (by omega) (fun h53 => ?_) (fun h53 => ?_)
    · exact absurd h53 (by omega)
    · refine mm_aload_n rfl rfl ?_
      refine mm_getR rfl rfl rfl (by decide) rfl (mm_gi hG 69 12 75 (by decide)) ?_
      refine mm_iload rfl rfl ?_
      refine mm_bipush (v := nI 100) rfl (by decide) ?_
      refine mm_imulN rfl ?_
      refine mm_iload rfl rfl ?_
      refine mm_iaddN rfl ?_
      refine mm_aload_n rfl rfl ?_
      refine mm_getR rfl rfl rfl (by decide) rfl (mm_gi hG 69 12 75 (by decide)) ?_
      refine mm_iload rfl rfl ?_
      refine mm_bipush (v := nI 100) rfl (by decide) ?_
      refine mm_imulN rfl ?_
      refine mm_bipush (v := nI 100) rfl (by decide) ?_
      refine mm_isubN rfl (by omega) ?_
      refine mm_iload rfl rfl ?_
      refine mm_iaddN rfl ?_
      refine mm_rdN (x := J 75 (k * 100 - 100 + i)) rfl (by decide) rfl (by decide) (by omega) (by decide) rfl (mm_cp_rd (by omega)) ?_
      refine mm_wrN rfl (by decide) rfl (by decide) (by omega) (by decide) rfl ?_
      refine mm_iincN rfl rfl (mm_inc1 _) (by decide) ?_
      refine mm_goto (tgt := 49) rfl (by decide) ?_
      rw [mm_cp_t]
      exact lR_keepI hG hk1 hk3 kk q (i + 1) (by omega) (by omega)
set_option maxRecDepth 100000 in
set_option maxHeartbeats 400000 in
theorem lR_keepO {E : mm_E} {G : mm_G} {J : mm_J} (hG : mm_GI G) {a d k : Nat} {z : Option Value} {F : mm_F} (hk1 : 1 ≤ k) (hk3 : k ≤ 3) (kk : mm_Go E qR_keep 25 [some (.ref 69), some (.int (nI a)), some (.int (nI d)), some (.int (nI 0)), some (.int (nI (k - 1))), some (.int (nI 100))] [] 86 (ed_sh1 J k) G 0 0 F) : mm_Go E qR_keep 25 [some (.ref 69), some (.int (nI a)), some (.int (nI d)), some (.int (nI 0)), some (.int (nI k)), z] [] 86 J G 0 0 F := by
  refine mm_iload rfl rfl ?_
  refine mm_if_leN (tgt := 97) rfl (by decide) (by omega) (fun h27 => ?_) (fun h27 => ?_)
  · exact absurd h27 (by omega)
  · refine mm_aload_n rfl rfl ?_
    refine mm_getR rfl rfl rfl (by decide) rfl (mm_gi hG 69 13 76 (by decide)) ?_
    refine mm_iload rfl rfl ?_
    refine mm_aload_n rfl rfl ?_
    refine mm_getR rfl rfl rfl (by decide) rfl (mm_gi hG 69 13 76 (by decide)) ?_
    refine mm_iload rfl rfl ?_
    refine mm_iconst (v := nI 1) rfl (by decide) ?_
    refine mm_isubN rfl (by omega) ?_
    refine mm_rdN rfl (by decide) rfl (by decide) (by omega) (by decide) rfl rfl ?_
    refine mm_wrN rfl (by decide) rfl (by decide) (by omega) (by decide) rfl ?_
    refine mm_iconst (v := nI 0) rfl (by decide) ?_
    refine mm_istore rfl (by decide) ?_
    refine mm_J_eq (mm_cp_0 _ 75 75 (k * 100 - 100) (k * 100)).symm (lR_keepI (J := mm_set J 76 k (J 76 (k - 1))) hG hk1 hk3 ?_ 100 0 rfl (by omega))
    refine mm_iincN rfl rfl (mm_dec1 (by omega)) (by decide) ?_
    refine mm_goto (tgt := 25) rfl (by decide) ?_
    exact kk
set_option maxRecDepth 100000 in
set_option maxHeartbeats 4000000 in
theorem lR_keepA {E : mm_E} {G : mm_G} {J : mm_J} (hG : mm_GI G) {a d l bh : Nat} (hl : J 76 0 = nI l) (hld : l + d ≤ 100) (had : a + d ≤ 100) : ∀ (q i : Nat) (z : Option Value), d - i = q → i ≤ d → mm_Go E qR_keep 107 [some (.ref 69), some (.int (nI a)), some (.int (nI d)), some (.int (nI bh)), some (.int (nI i)), z] [] 86 (mm_cp J 70 75 a l i) G 0 0 (mm_Fm E qR_keep (mm_is none 86 (mm_set (mm_cp J 70 75 a l d) 76 0 (nI (l + d))) G))
  | 0, i, z, hq, hi => by
    refine mm_iload rfl rfl ?_
    refine mm_iload_n rfl rfl ?_
    refine mm_icmp_geN (tgt := 142) rfl (by decide) (by omega) (by omega) (fun h110 => ?_) (fun h110 => ?_)
    · refine mm_aload_n rfl rfl ?_
      refine mm_getR rfl rfl rfl (by decide) rfl (mm_gi hG 69 13 76 (by decide)) ?_
      refine mm_iconst (v := nI 0) rfl (by decide) ?_
      refine mm_dup2 rfl rfl rfl ?_
      refine mm_rdN (x := nI l) rfl (by decide) rfl (by decide) (by decide) (by decide) rfl (by simp [mm_cp, hl]) ?_
      refine mm_iload_n rfl rfl ?_
      refine mm_iaddN rfl ?_
      refine mm_wrN rfl (by decide) rfl (by decide) (by decide) (by decide) rfl ?_
      refine mm_return rfl rfl (by decide) (by decide) ?_
      exact ⟨rfl, rfl, by rw [show i = d by omega], rfl⟩
    · exact absurd h110 (by omega)
  | q + 1, i, z, hq, hi => by
    refine mm_iload rfl rfl ?_
    refine mm_iload_n rfl rfl ?_
    refine mm_icmp_geN (tgt := 142) rfl (by decide) (by omega) (by omega) (fun h110 => ?_) (fun h110 => ?_)
    · exact absurd h110 (by omega)
    · refine mm_aload_n rfl rfl ?_
      refine mm_getR rfl rfl rfl (by decide) rfl (mm_gi hG 69 12 75 (by decide)) ?_
      refine mm_aload_n rfl rfl ?_
      refine mm_getR rfl rfl rfl (by decide) rfl (mm_gi hG 69 13 76 (by decide)) ?_
      refine mm_iconst (v := nI 0) rfl (by decide) ?_
      refine mm_rdN (x := nI l) rfl (by decide) rfl (by decide) (by decide) (by decide) rfl (by simp [mm_cp, hl]) ?_
      refine mm_iload rfl rfl ?_
      refine mm_iaddN rfl ?_
      refine mm_aload_n rfl rfl ?_
      refine mm_getR rfl rfl rfl (by decide) rfl (mm_gi hG 69 0 70 (by decide)) ?_
      refine mm_iload_n rfl rfl ?_
      refine mm_iload rfl rfl ?_
      refine mm_iaddN rfl ?_
      refine mm_rdN (x := J 70 (a + i)) rfl (by decide) rfl (by decide) (by omega) (by decide) rfl (by simp [mm_cp]) ?_
      refine mm_wrN rfl (by decide) rfl (by decide) (by omega) (by decide) rfl ?_
      refine mm_iincN rfl rfl (mm_inc1 _) (by decide) ?_
      refine mm_goto (tgt := 107) rfl (by decide) ?_
      rw [mm_cp_t]
      exact lR_keepA hG hl hld had q (i + 1) z (by omega) (by omega)
set_option maxRecDepth 100000 in
set_option maxHeartbeats 4000000 in
theorem sR_keep1 {E : mm_E} {G : mm_G} {J : mm_J} (hG : mm_GI G) {a d l : Nat} (hl : J 76 0 = nI l) (hld : l + d ≤ 100) (had : a + d ≤ 100) : mm_Ret E qR_keep [.ref 69, .int (nI a), .int (nI d), .int (nI 1)] 86 J G none 86 (mm_set (mm_cp J 70 75 a l d) 76 0 (nI (l + d))) G := by
  refine mm_Met.of qR_keep_ok (by decide) (mm_cats rfl) (Nat.le_of_ble_eq_true rfl) ?_
  refine mm_iload_n rfl rfl ?_
  refine mm_if_neN (tgt := 104) rfl (by decide) (by decide) (fun h1 => ?_) (fun h1 => ?_)
  · refine mm_iconst (v := nI 0) rfl (by decide) ?_
    refine mm_istore rfl (by decide) ?_
    exact mm_J_eq (mm_cp_0 J 70 75 a l).symm (lR_keepA hG hl hld had d 0 _ rfl (by omega))
  · exact absurd h1 (by decide)
set_option maxRecDepth 100000 in
set_option maxHeartbeats 4000000 in
theorem sR_keep0 {E : mm_E} {G : mm_G} {J : mm_J} (hG : mm_GI G) {a d c : Nat} (hc : J 69 14 = nI c) (hc2 : c ≤ 4) (had : a + d ≤ 100) : mm_Ret E qR_keep [.ref 69, .int (nI a), .int (nI d), .int (nI 0)] 86 J G none 86 (mm_set (mm_cp (ed_shift (mm_set J 69 14 (nI (min (c + 1) 4)))) 70 75 a 0 d) 76 0 (nI (0 + d))) G := by
  refine mm_Met.of qR_keep_ok (by decide) (mm_cats rfl) (Nat.le_of_ble_eq_true rfl) ?_
  refine mm_iload_n rfl rfl ?_
  refine mm_if_neN (tgt := 104) rfl (by decide) (by decide) (fun h1 => ?_) (fun h1 => ?_)
  · exact absurd rfl h1
  · refine mm_aload_n rfl rfl ?_
    refine mm_getI (x := nI c) rfl rfl rfl (by decide) rfl hc ?_
    refine mm_iconst (v := nI 4) rfl (by decide) ?_
    refine mm_icmp_geN (tgt := 22) rfl (by decide) (by omega) (by omega) (fun h9 => ?_) (fun h9 => ?_)
    · refine mm_iconst (v := nI 3) rfl (by decide) ?_
      refine mm_istore rfl (by decide) ?_
      refine mm_J_eq (J2 := mm_set J 69 14 (nI (min (c + 1) 4))) (mm_set_self (by rw [hc]; congr 1; omega)).symm ?_
      refine lR_keepO (k := 3) hG (by decide) (by decide) ?_
      refine lR_keepO (k := 3 - 1) hG (by decide) (by decide) ?_
      refine lR_keepO (k := 3 - 1 - 1) hG (by decide) (by decide) ?_
      refine mm_iload rfl rfl ?_
      refine mm_if_leN (tgt := 97) rfl (by decide) (by decide) (fun _ => ?_) (fun h => absurd h (by decide))
      refine mm_aload_n rfl rfl ?_
      refine mm_getR rfl rfl rfl (by decide) rfl (mm_gi hG 69 13 76 (by decide)) ?_
      refine mm_iconst (v := nI 0) rfl (by decide) ?_
      refine mm_iconst (v := nI 0) rfl (by decide) ?_
      refine mm_wrN rfl (by decide) rfl (by decide) (by decide) (by decide) rfl ?_
      refine mm_iconst (v := nI 0) rfl (by decide) ?_
      refine mm_istore rfl (by decide) ?_
      exact mm_J_eq (mm_cp_0 _ 70 75 a 0).symm (lR_keepA (J := (ed_shift (mm_set J 69 14 (nI (min (c + 1) 4))))) (l := 0) hG (by simp [ed_shift, mm_set]) (by omega) had d 0 _ rfl (by omega))
    · refine mm_aload_n rfl rfl ?_
      refine mm_dup rfl rfl ?_
      refine mm_getI (x := nI c) rfl rfl rfl (by decide) rfl hc ?_
      refine mm_iconst (v := nI 1) rfl (by decide) ?_
      refine mm_iaddN rfl ?_
      refine mm_putI rfl rfl rfl (by decide) rfl (Or.inl rfl) rfl rfl ?_
      refine mm_iconst (v := nI 3) rfl (by decide) ?_
      refine mm_istore rfl (by decide) ?_
      refine mm_J_eq (J2 := mm_set J 69 14 (nI (min (c + 1) 4))) (by rw [show min (c + 1) 4 = c + 1 by omega]) ?_
      refine lR_keepO (k := 3) hG (by decide) (by decide) ?_
      refine lR_keepO (k := 3 - 1) hG (by decide) (by decide) ?_
      refine lR_keepO (k := 3 - 1 - 1) hG (by decide) (by decide) ?_
      refine mm_iload rfl rfl ?_
      refine mm_if_leN (tgt := 97) rfl (by decide) (by decide) (fun _ => ?_) (fun h => absurd h (by decide))
      refine mm_aload_n rfl rfl ?_
      refine mm_getR rfl rfl rfl (by decide) rfl (mm_gi hG 69 13 76 (by decide)) ?_
      refine mm_iconst (v := nI 0) rfl (by decide) ?_
      refine mm_iconst (v := nI 0) rfl (by decide) ?_
      refine mm_wrN rfl (by decide) rfl (by decide) (by decide) (by decide) rfl ?_
      refine mm_iconst (v := nI 0) rfl (by decide) ?_
      refine mm_istore rfl (by decide) ?_
      exact mm_J_eq (mm_cp_0 _ 70 75 a 0).symm (lR_keepA (J := (ed_shift (mm_set J 69 14 (nI (min (c + 1) 4))))) (l := 0) hG (by simp [ed_shift, mm_set]) (by omega) had d 0 _ rfl (by omega))
def ed_kd (f : Nat → Int32) (n q : Nat) : Nat := if q < ed_le f n q then ed_le f n q - q else if q < n then 1 else 0
set_option maxRecDepth 100000 in
set_option maxHeartbeats 4000000 in
theorem sR_killLine0 {E : mm_E} {G : mm_G} {J : mm_J} (hG : mm_GI G) {n q : Nat} (hn : J 69 3 = nI n) (hn2 : n ≤ 100) (hp : J 69 5 = nI q) (hq : q ≤ n) (h0 : ed_kd (J 70) n q = 0) : mm_Ret E qR_killLine [.ref 69] 86 J G (some (.int (-2))) 86 J G := by
  refine mm_Met.of qR_killLine_ok (by decide) (mm_cats rfl) (Nat.le_of_ble_eq_true rfl) ?_
  have hle := ed_le_le (f := J 70) hq
  refine mm_aload_n rfl rfl ?_
  refine mm_aload_n rfl rfl ?_
  refine mm_getI (x := nI q) rfl rfl rfl (by decide) rfl hp ?_
  refine mm_isV1 (M2 := qR_lineEnd) wd_685 qR_lineEnd_k (by decide) (sR_lineEnd hG hn hn2 hq) rfl (by decide) (Nat.le_of_ble_eq_true rfl) (by decide) (by decide) rfl (by decide) ?_
  refine mm_istore_n rfl (by decide) ?_
  refine mm_iload_n rfl rfl ?_
  refine mm_aload_n rfl rfl ?_
  refine mm_getI (x := nI q) rfl rfl rfl (by decide) rfl hp ?_
  refine mm_icmp_leN (tgt := 26) rfl (by decide) (by omega) (by omega) (fun h14 => ?_) (fun h14 => ?_)
  · refine mm_aload_n rfl rfl ?_
    refine mm_getI (x := nI q) rfl rfl rfl (by decide) rfl hp ?_
    refine mm_aload_n rfl rfl ?_
    refine mm_getI (x := nI n) rfl rfl rfl (by decide) rfl hn ?_
    refine mm_icmp_geN (tgt := 41) rfl (by decide) (by omega) (by omega) (fun h34 => ?_) (fun h34 => ?_)
    · refine mm_iconst (v := nI 0) rfl (by decide) ?_
      rw [show ed_kd (J 70) n q = 0 from by rw [ed_kd, if_neg (by omega), if_neg (by omega)]] at *
      refine mm_istore_n rfl (by decide) ?_
      refine mm_iload_n rfl rfl ?_
      refine mm_if_neN (tgt := 50) rfl (by decide) (by omega) (fun h44 => ?_) (fun h44 => ?_)
      · exact absurd (by omega) h44
      · refine mm_bipush (v := -2) rfl (by decide) ?_
        refine mm_ireturn rfl rfl rfl (by decide) (by decide) ?_
        exact ⟨rfl, rfl, rfl, rfl⟩
    · refine mm_iconst (v := nI 1) rfl (by decide) ?_
      refine mm_goto (tgt := 42) rfl (by decide) ?_
      rw [show ed_kd (J 70) n q = 1 from by rw [ed_kd, if_neg (by omega), if_pos (by omega)]] at *
      refine mm_istore_n rfl (by decide) ?_
      refine mm_iload_n rfl rfl ?_
      refine mm_if_neN (tgt := 50) rfl (by decide) (by omega) (fun h44 => ?_) (fun h44 => ?_)
      · exact absurd (by omega) h44
      · refine mm_bipush (v := -2) rfl (by decide) ?_
        refine mm_ireturn rfl rfl rfl (by decide) (by decide) ?_
        exact ⟨rfl, rfl, rfl, rfl⟩
  · refine mm_iload_n rfl rfl ?_
    refine mm_aload_n rfl rfl ?_
    refine mm_getI (x := nI q) rfl rfl rfl (by decide) rfl hp ?_
    refine mm_isubN rfl (by omega) ?_
    refine mm_goto (tgt := 42) rfl (by decide) ?_
    rw [show ed_kd (J 70) n q = ed_le (J 70) n q - q from by rw [ed_kd, if_pos (by omega)]] at *
    refine mm_istore_n rfl (by decide) ?_
    refine mm_iload_n rfl rfl ?_
    refine mm_if_neN (tgt := 50) rfl (by decide) (by omega) (fun h44 => ?_) (fun h44 => ?_)
    · exact absurd (by omega) h44
    · refine mm_bipush (v := -2) rfl (by decide) ?_
      refine mm_ireturn rfl rfl rfl (by decide) (by decide) ?_
      exact ⟨rfl, rfl, rfl, rfl⟩
set_option maxRecDepth 100000 in
set_option maxHeartbeats 4000000 in
theorem sR_killLine1 {E : mm_E} {G : mm_G} {J : mm_J} (hG : mm_GI G) {n q : Nat} (hn : J 69 3 = nI n) (hn2 : n ≤ 100) (hp : J 69 5 = nI q) (hq : q ≤ n) (h0 : 0 < ed_kd (J 70) n q) {J2 : mm_J} {r : Int32} {J3 : mm_J} (hl : J 69 8 = nI 10 ∨ J 69 8 = nI 11) (hk : mm_Ret E qR_keep [.ref 69, .int (nI q), .int (nI (ed_kd (J 70) n q)), .int (nI 1)] 86 J G none 86 J2 G) (hp2 : J2 69 5 = nI q) (he : mm_Ret E qR_erase [.ref 69, .int (nI q), .int (nI (ed_kd (J 70) n q))] 86 J2 G (some (.int r)) 86 J3 G) : mm_Ret E qR_killLine [.ref 69] 86 J G (some (.int r)) 86 J3 G := by
  refine mm_Met.of qR_killLine_ok (by decide) (mm_cats rfl) (Nat.le_of_ble_eq_true rfl) ?_
  have hle := ed_le_le (f := J 70) hq
  refine mm_aload_n rfl rfl ?_
  refine mm_aload_n rfl rfl ?_
  refine mm_getI (x := nI q) rfl rfl rfl (by decide) rfl hp ?_
  refine mm_isV1 (M2 := qR_lineEnd) wd_685 qR_lineEnd_k (by decide) (sR_lineEnd hG hn hn2 hq) rfl (by decide) (Nat.le_of_ble_eq_true rfl) (by decide) (by decide) rfl (by decide) ?_
  refine mm_istore_n rfl (by decide) ?_
  refine mm_iload_n rfl rfl ?_
  refine mm_aload_n rfl rfl ?_
  refine mm_getI (x := nI q) rfl rfl rfl (by decide) rfl hp ?_
  refine mm_icmp_leN (tgt := 26) rfl (by decide) (by omega) (by omega) (fun h14 => ?_) (fun h14 => ?_)
  · refine mm_aload_n rfl rfl ?_
    refine mm_getI (x := nI q) rfl rfl rfl (by decide) rfl hp ?_
    refine mm_aload_n rfl rfl ?_
    refine mm_getI (x := nI n) rfl rfl rfl (by decide) rfl hn ?_
    refine mm_icmp_geN (tgt := 41) rfl (by decide) (by omega) (by omega) (fun h34 => ?_) (fun h34 => ?_)
    · refine mm_iconst (v := nI 0) rfl (by decide) ?_
      rw [show ed_kd (J 70) n q = 0 from by rw [ed_kd, if_neg (by omega), if_neg (by omega)]] at *
      refine mm_istore_n rfl (by decide) ?_
      refine mm_iload_n rfl rfl ?_
      refine mm_if_neN (tgt := 50) rfl (by decide) (by omega) (fun h44 => ?_) (fun h44 => ?_)
      · refine mm_aload_n rfl rfl ?_
        refine mm_aload_n rfl rfl ?_
        refine mm_getI (x := nI q) rfl rfl rfl (by decide) rfl hp ?_
        refine mm_iload_n rfl rfl ?_
        refine mm_aload_n rfl rfl ?_
        refine mm_getI rfl rfl rfl (by decide) rfl rfl ?_
        refine mm_bipush (v := nI 10) rfl (by decide) ?_
        refine mm_icmp_eq (tgt := 74) rfl (by decide) (fun h62 => ?_) (fun h62 => ?_)
        · refine mm_iconst (v := nI 1) rfl (by decide) ?_
          refine mm_goto (tgt := 79) rfl (by decide) ?_
          refine mm_isV3 (M2 := qR_keep) wd_689 qR_keep_k (by decide) hk rfl (by decide) (Nat.le_of_ble_eq_true rfl) (by decide) (by decide) rfl (by decide) ?_
          refine mm_aload_n rfl rfl ?_
          refine mm_aload_n rfl rfl ?_
          refine mm_getI (x := nI q) rfl rfl rfl (by decide) rfl hp2 ?_
          refine mm_iload_n rfl rfl ?_
          refine mm_isV2 (M2 := qR_erase) wd_677 qR_erase_k (by decide) he rfl (by decide) (Nat.le_of_ble_eq_true rfl) (by decide) (by decide) rfl (by decide) ?_
          refine mm_ireturn rfl rfl rfl (by decide) (by decide) ?_
          exact ⟨rfl, rfl, rfl, rfl⟩
        · refine mm_aload_n rfl rfl ?_
          refine mm_getI rfl rfl rfl (by decide) rfl rfl ?_
          refine mm_bipush (v := nI 11) rfl (by decide) ?_
          refine mm_icmp_ne (tgt := 78) rfl (by decide) (fun h71 => ?_) (fun h71 => ?_)
          · exact absurd hl (fun e => e.elim h62 h71)
          · refine mm_iconst (v := nI 1) rfl (by decide) ?_
            refine mm_goto (tgt := 79) rfl (by decide) ?_
            refine mm_isV3 (M2 := qR_keep) wd_689 qR_keep_k (by decide) hk rfl (by decide) (Nat.le_of_ble_eq_true rfl) (by decide) (by decide) rfl (by decide) ?_
            refine mm_aload_n rfl rfl ?_
            refine mm_aload_n rfl rfl ?_
            refine mm_getI (x := nI q) rfl rfl rfl (by decide) rfl hp2 ?_
            refine mm_iload_n rfl rfl ?_
            refine mm_isV2 (M2 := qR_erase) wd_677 qR_erase_k (by decide) he rfl (by decide) (Nat.le_of_ble_eq_true rfl) (by decide) (by decide) rfl (by decide) ?_
            refine mm_ireturn rfl rfl rfl (by decide) (by decide) ?_
            exact ⟨rfl, rfl, rfl, rfl⟩
      · exact absurd h44 (by omega)
    · refine mm_iconst (v := nI 1) rfl (by decide) ?_
      refine mm_goto (tgt := 42) rfl (by decide) ?_
      rw [show ed_kd (J 70) n q = 1 from by rw [ed_kd, if_neg (by omega), if_pos (by omega)]] at *
      refine mm_istore_n rfl (by decide) ?_
      refine mm_iload_n rfl rfl ?_
      refine mm_if_neN (tgt := 50) rfl (by decide) (by omega) (fun h44 => ?_) (fun h44 => ?_)
      · refine mm_aload_n rfl rfl ?_
        refine mm_aload_n rfl rfl ?_
        refine mm_getI (x := nI q) rfl rfl rfl (by decide) rfl hp ?_
        refine mm_iload_n rfl rfl ?_
        refine mm_aload_n rfl rfl ?_
        refine mm_getI rfl rfl rfl (by decide) rfl rfl ?_
        refine mm_bipush (v := nI 10) rfl (by decide) ?_
        refine mm_icmp_eq (tgt := 74) rfl (by decide) (fun h62 => ?_) (fun h62 => ?_)
        · refine mm_iconst (v := nI 1) rfl (by decide) ?_
          refine mm_goto (tgt := 79) rfl (by decide) ?_
          refine mm_isV3 (M2 := qR_keep) wd_689 qR_keep_k (by decide) hk rfl (by decide) (Nat.le_of_ble_eq_true rfl) (by decide) (by decide) rfl (by decide) ?_
          refine mm_aload_n rfl rfl ?_
          refine mm_aload_n rfl rfl ?_
          refine mm_getI (x := nI q) rfl rfl rfl (by decide) rfl hp2 ?_
          refine mm_iload_n rfl rfl ?_
          refine mm_isV2 (M2 := qR_erase) wd_677 qR_erase_k (by decide) he rfl (by decide) (Nat.le_of_ble_eq_true rfl) (by decide) (by decide) rfl (by decide) ?_
          refine mm_ireturn rfl rfl rfl (by decide) (by decide) ?_
          exact ⟨rfl, rfl, rfl, rfl⟩
        · refine mm_aload_n rfl rfl ?_
          refine mm_getI rfl rfl rfl (by decide) rfl rfl ?_
          refine mm_bipush (v := nI 11) rfl (by decide) ?_
          refine mm_icmp_ne (tgt := 78) rfl (by decide) (fun h71 => ?_) (fun h71 => ?_)
          · exact absurd hl (fun e => e.elim h62 h71)
          · refine mm_iconst (v := nI 1) rfl (by decide) ?_
            refine mm_goto (tgt := 79) rfl (by decide) ?_
            refine mm_isV3 (M2 := qR_keep) wd_689 qR_keep_k (by decide) hk rfl (by decide) (Nat.le_of_ble_eq_true rfl) (by decide) (by decide) rfl (by decide) ?_
            refine mm_aload_n rfl rfl ?_
            refine mm_aload_n rfl rfl ?_
            refine mm_getI (x := nI q) rfl rfl rfl (by decide) rfl hp2 ?_
            refine mm_iload_n rfl rfl ?_
            refine mm_isV2 (M2 := qR_erase) wd_677 qR_erase_k (by decide) he rfl (by decide) (Nat.le_of_ble_eq_true rfl) (by decide) (by decide) rfl (by decide) ?_
            refine mm_ireturn rfl rfl rfl (by decide) (by decide) ?_
            exact ⟨rfl, rfl, rfl, rfl⟩
      · exact absurd h44 (by omega)
  · refine mm_iload_n rfl rfl ?_
    refine mm_aload_n rfl rfl ?_
    refine mm_getI (x := nI q) rfl rfl rfl (by decide) rfl hp ?_
    refine mm_isubN rfl (by omega) ?_
    refine mm_goto (tgt := 42) rfl (by decide) ?_
    rw [show ed_kd (J 70) n q = ed_le (J 70) n q - q from by rw [ed_kd, if_pos (by omega)]] at *
    refine mm_istore_n rfl (by decide) ?_
    refine mm_iload_n rfl rfl ?_
    refine mm_if_neN (tgt := 50) rfl (by decide) (by omega) (fun h44 => ?_) (fun h44 => ?_)
    · refine mm_aload_n rfl rfl ?_
      refine mm_aload_n rfl rfl ?_
      refine mm_getI (x := nI q) rfl rfl rfl (by decide) rfl hp ?_
      refine mm_iload_n rfl rfl ?_
      refine mm_aload_n rfl rfl ?_
      refine mm_getI rfl rfl rfl (by decide) rfl rfl ?_
      refine mm_bipush (v := nI 10) rfl (by decide) ?_
      refine mm_icmp_eq (tgt := 74) rfl (by decide) (fun h62 => ?_) (fun h62 => ?_)
      · refine mm_iconst (v := nI 1) rfl (by decide) ?_
        refine mm_goto (tgt := 79) rfl (by decide) ?_
        refine mm_isV3 (M2 := qR_keep) wd_689 qR_keep_k (by decide) hk rfl (by decide) (Nat.le_of_ble_eq_true rfl) (by decide) (by decide) rfl (by decide) ?_
        refine mm_aload_n rfl rfl ?_
        refine mm_aload_n rfl rfl ?_
        refine mm_getI (x := nI q) rfl rfl rfl (by decide) rfl hp2 ?_
        refine mm_iload_n rfl rfl ?_
        refine mm_isV2 (M2 := qR_erase) wd_677 qR_erase_k (by decide) he rfl (by decide) (Nat.le_of_ble_eq_true rfl) (by decide) (by decide) rfl (by decide) ?_
        refine mm_ireturn rfl rfl rfl (by decide) (by decide) ?_
        exact ⟨rfl, rfl, rfl, rfl⟩
      · refine mm_aload_n rfl rfl ?_
        refine mm_getI rfl rfl rfl (by decide) rfl rfl ?_
        refine mm_bipush (v := nI 11) rfl (by decide) ?_
        refine mm_icmp_ne (tgt := 78) rfl (by decide) (fun h71 => ?_) (fun h71 => ?_)
        · exact absurd hl (fun e => e.elim h62 h71)
        · refine mm_iconst (v := nI 1) rfl (by decide) ?_
          refine mm_goto (tgt := 79) rfl (by decide) ?_
          refine mm_isV3 (M2 := qR_keep) wd_689 qR_keep_k (by decide) hk rfl (by decide) (Nat.le_of_ble_eq_true rfl) (by decide) (by decide) rfl (by decide) ?_
          refine mm_aload_n rfl rfl ?_
          refine mm_aload_n rfl rfl ?_
          refine mm_getI (x := nI q) rfl rfl rfl (by decide) rfl hp2 ?_
          refine mm_iload_n rfl rfl ?_
          refine mm_isV2 (M2 := qR_erase) wd_677 qR_erase_k (by decide) he rfl (by decide) (Nat.le_of_ble_eq_true rfl) (by decide) (by decide) rfl (by decide) ?_
          refine mm_ireturn rfl rfl rfl (by decide) (by decide) ?_
          exact ⟨rfl, rfl, rfl, rfl⟩
    · exact absurd h44 (by omega)
set_option maxRecDepth 100000 in
set_option maxHeartbeats 4000000 in
theorem sR_killLine2 {E : mm_E} {G : mm_G} {J : mm_J} (hG : mm_GI G) {n q : Nat} (hn : J 69 3 = nI n) (hn2 : n ≤ 100) (hp : J 69 5 = nI q) (hq : q ≤ n) (h0 : 0 < ed_kd (J 70) n q) {J2 : mm_J} {r : Int32} {J3 : mm_J} (hl : ¬ J 69 8 = nI 10 ∧ ¬ J 69 8 = nI 11) (hk : mm_Ret E qR_keep [.ref 69, .int (nI q), .int (nI (ed_kd (J 70) n q)), .int (nI 0)] 86 J G none 86 J2 G) (hp2 : J2 69 5 = nI q) (he : mm_Ret E qR_erase [.ref 69, .int (nI q), .int (nI (ed_kd (J 70) n q))] 86 J2 G (some (.int r)) 86 J3 G) : mm_Ret E qR_killLine [.ref 69] 86 J G (some (.int r)) 86 J3 G := by
  refine mm_Met.of qR_killLine_ok (by decide) (mm_cats rfl) (Nat.le_of_ble_eq_true rfl) ?_
  have hle := ed_le_le (f := J 70) hq
  refine mm_aload_n rfl rfl ?_
  refine mm_aload_n rfl rfl ?_
  refine mm_getI (x := nI q) rfl rfl rfl (by decide) rfl hp ?_
  refine mm_isV1 (M2 := qR_lineEnd) wd_685 qR_lineEnd_k (by decide) (sR_lineEnd hG hn hn2 hq) rfl (by decide) (Nat.le_of_ble_eq_true rfl) (by decide) (by decide) rfl (by decide) ?_
  refine mm_istore_n rfl (by decide) ?_
  refine mm_iload_n rfl rfl ?_
  refine mm_aload_n rfl rfl ?_
  refine mm_getI (x := nI q) rfl rfl rfl (by decide) rfl hp ?_
  refine mm_icmp_leN (tgt := 26) rfl (by decide) (by omega) (by omega) (fun h14 => ?_) (fun h14 => ?_)
  · refine mm_aload_n rfl rfl ?_
    refine mm_getI (x := nI q) rfl rfl rfl (by decide) rfl hp ?_
    refine mm_aload_n rfl rfl ?_
    refine mm_getI (x := nI n) rfl rfl rfl (by decide) rfl hn ?_
    refine mm_icmp_geN (tgt := 41) rfl (by decide) (by omega) (by omega) (fun h34 => ?_) (fun h34 => ?_)
    · refine mm_iconst (v := nI 0) rfl (by decide) ?_
      rw [show ed_kd (J 70) n q = 0 from by rw [ed_kd, if_neg (by omega), if_neg (by omega)]] at *
      refine mm_istore_n rfl (by decide) ?_
      refine mm_iload_n rfl rfl ?_
      refine mm_if_neN (tgt := 50) rfl (by decide) (by omega) (fun h44 => ?_) (fun h44 => ?_)
      · refine mm_aload_n rfl rfl ?_
        refine mm_aload_n rfl rfl ?_
        refine mm_getI (x := nI q) rfl rfl rfl (by decide) rfl hp ?_
        refine mm_iload_n rfl rfl ?_
        refine mm_aload_n rfl rfl ?_
        refine mm_getI rfl rfl rfl (by decide) rfl rfl ?_
        refine mm_bipush (v := nI 10) rfl (by decide) ?_
        refine mm_icmp_eq (tgt := 74) rfl (by decide) (fun h62 => ?_) (fun h62 => ?_)
        · exact absurd h62 hl.1
        · refine mm_aload_n rfl rfl ?_
          refine mm_getI rfl rfl rfl (by decide) rfl rfl ?_
          refine mm_bipush (v := nI 11) rfl (by decide) ?_
          refine mm_icmp_ne (tgt := 78) rfl (by decide) (fun h71 => ?_) (fun h71 => ?_)
          · refine mm_iconst (v := nI 0) rfl (by decide) ?_
            refine mm_isV3 (M2 := qR_keep) wd_689 qR_keep_k (by decide) hk rfl (by decide) (Nat.le_of_ble_eq_true rfl) (by decide) (by decide) rfl (by decide) ?_
            refine mm_aload_n rfl rfl ?_
            refine mm_aload_n rfl rfl ?_
            refine mm_getI (x := nI q) rfl rfl rfl (by decide) rfl hp2 ?_
            refine mm_iload_n rfl rfl ?_
            refine mm_isV2 (M2 := qR_erase) wd_677 qR_erase_k (by decide) he rfl (by decide) (Nat.le_of_ble_eq_true rfl) (by decide) (by decide) rfl (by decide) ?_
            refine mm_ireturn rfl rfl rfl (by decide) (by decide) ?_
            exact ⟨rfl, rfl, rfl, rfl⟩
          · exact absurd h71 hl.2
      · exact absurd h44 (by omega)
    · refine mm_iconst (v := nI 1) rfl (by decide) ?_
      refine mm_goto (tgt := 42) rfl (by decide) ?_
      rw [show ed_kd (J 70) n q = 1 from by rw [ed_kd, if_neg (by omega), if_pos (by omega)]] at *
      refine mm_istore_n rfl (by decide) ?_
      refine mm_iload_n rfl rfl ?_
      refine mm_if_neN (tgt := 50) rfl (by decide) (by omega) (fun h44 => ?_) (fun h44 => ?_)
      · refine mm_aload_n rfl rfl ?_
        refine mm_aload_n rfl rfl ?_
        refine mm_getI (x := nI q) rfl rfl rfl (by decide) rfl hp ?_
        refine mm_iload_n rfl rfl ?_
        refine mm_aload_n rfl rfl ?_
        refine mm_getI rfl rfl rfl (by decide) rfl rfl ?_
        refine mm_bipush (v := nI 10) rfl (by decide) ?_
        refine mm_icmp_eq (tgt := 74) rfl (by decide) (fun h62 => ?_) (fun h62 => ?_)
        · exact absurd h62 hl.1
        · refine mm_aload_n rfl rfl ?_
          refine mm_getI rfl rfl rfl (by decide) rfl rfl ?_
          refine mm_bipush (v := nI 11) rfl (by decide) ?_
          refine mm_icmp_ne (tgt := 78) rfl (by decide) (fun h71 => ?_) (fun h71 => ?_)
          · refine mm_iconst (v := nI 0) rfl (by decide) ?_
            refine mm_isV3 (M2 := qR_keep) wd_689 qR_keep_k (by decide) hk rfl (by decide) (Nat.le_of_ble_eq_true rfl) (by decide) (by decide) rfl (by decide) ?_
            refine mm_aload_n rfl rfl ?_
            refine mm_aload_n rfl rfl ?_
            refine mm_getI (x := nI q) rfl rfl rfl (by decide) rfl hp2 ?_
            refine mm_iload_n rfl rfl ?_
            refine mm_isV2 (M2 := qR_erase) wd_677 qR_erase_k (by decide) he rfl (by decide) (Nat.le_of_ble_eq_true rfl) (by decide) (by decide) rfl (by decide) ?_
            refine mm_ireturn rfl rfl rfl (by decide) (by decide) ?_
            exact ⟨rfl, rfl, rfl, rfl⟩
          · exact absurd h71 hl.2
      · exact absurd h44 (by omega)
  · refine mm_iload_n rfl rfl ?_
    refine mm_aload_n rfl rfl ?_
    refine mm_getI (x := nI q) rfl rfl rfl (by decide) rfl hp ?_
    refine mm_isubN rfl (by omega) ?_
    refine mm_goto (tgt := 42) rfl (by decide) ?_
    rw [show ed_kd (J 70) n q = ed_le (J 70) n q - q from by rw [ed_kd, if_pos (by omega)]] at *
    refine mm_istore_n rfl (by decide) ?_
    refine mm_iload_n rfl rfl ?_
    refine mm_if_neN (tgt := 50) rfl (by decide) (by omega) (fun h44 => ?_) (fun h44 => ?_)
    · refine mm_aload_n rfl rfl ?_
      refine mm_aload_n rfl rfl ?_
      refine mm_getI (x := nI q) rfl rfl rfl (by decide) rfl hp ?_
      refine mm_iload_n rfl rfl ?_
      refine mm_aload_n rfl rfl ?_
      refine mm_getI rfl rfl rfl (by decide) rfl rfl ?_
      refine mm_bipush (v := nI 10) rfl (by decide) ?_
      refine mm_icmp_eq (tgt := 74) rfl (by decide) (fun h62 => ?_) (fun h62 => ?_)
      · exact absurd h62 hl.1
      · refine mm_aload_n rfl rfl ?_
        refine mm_getI rfl rfl rfl (by decide) rfl rfl ?_
        refine mm_bipush (v := nI 11) rfl (by decide) ?_
        refine mm_icmp_ne (tgt := 78) rfl (by decide) (fun h71 => ?_) (fun h71 => ?_)
        · refine mm_iconst (v := nI 0) rfl (by decide) ?_
          refine mm_isV3 (M2 := qR_keep) wd_689 qR_keep_k (by decide) hk rfl (by decide) (Nat.le_of_ble_eq_true rfl) (by decide) (by decide) rfl (by decide) ?_
          refine mm_aload_n rfl rfl ?_
          refine mm_aload_n rfl rfl ?_
          refine mm_getI (x := nI q) rfl rfl rfl (by decide) rfl hp2 ?_
          refine mm_iload_n rfl rfl ?_
          refine mm_isV2 (M2 := qR_erase) wd_677 qR_erase_k (by decide) he rfl (by decide) (Nat.le_of_ble_eq_true rfl) (by decide) (by decide) rfl (by decide) ?_
          refine mm_ireturn rfl rfl rfl (by decide) (by decide) ?_
          exact ⟨rfl, rfl, rfl, rfl⟩
        · exact absurd h71 hl.2
    · exact absurd h44 (by omega)
set_option maxRecDepth 100000 in
set_option maxHeartbeats 4000000 in
theorem sR_killRegion0 {E : mm_E} {G : mm_G} {J : mm_J} (hk : J 69 6 = -2) {cp : Int32} : mm_Ret E qR_killRegion [.ref 69, .int cp] 86 J G (some (.int (-2))) 86 J G := by
  refine mm_Met.of qR_killRegion_ok (by decide) (mm_cats rfl) (Nat.le_of_ble_eq_true rfl) ?_
  refine mm_aload_n rfl rfl ?_
  refine mm_getI rfl rfl rfl (by decide) rfl hk ?_
  refine mm_if_lt (tgt := 18) rfl (by decide) (fun h4 => ?_) (fun h4 => ?_)
  · refine mm_bipush (v := -2) rfl (by decide) ?_
    refine mm_ireturn rfl rfl rfl (by decide) (by decide) ?_
    exact ⟨rfl, rfl, rfl, rfl⟩
  · exact absurd (by decide) h4
set_option maxRecDepth 100000 in
set_option maxHeartbeats 4000000 in
theorem sR_killRegion1 {E : mm_E} {G : mm_G} {J : mm_J} (hG : mm_GI G) {q k : Nat} (hp : J 69 5 = nI q) (hq : q ≤ 100) (hk : J 69 6 = nI k) (hk2 : k ≤ 100) {cp : Int32} (h : k = q) : mm_Ret E qR_killRegion [.ref 69, .int cp] 86 J G (some (.int (-2))) 86 J G := by
  refine mm_Met.of qR_killRegion_ok (by decide) (mm_cats rfl) (Nat.le_of_ble_eq_true rfl) ?_
  refine mm_aload_n rfl rfl ?_
  refine mm_getI (x := nI k) rfl rfl rfl (by decide) rfl hk ?_
  refine mm_if_ltN (tgt := 18) rfl (by decide) (by omega) ?_
  refine mm_aload_n rfl rfl ?_
  refine mm_getI (x := nI k) rfl rfl rfl (by decide) rfl hk ?_
  refine mm_aload_n rfl rfl ?_
  refine mm_getI (x := nI q) rfl rfl rfl (by decide) rfl hp ?_
  refine mm_icmp_neN (tgt := 21) rfl (by decide) (by omega) (by omega) (fun h15 => ?_) (fun h15 => ?_)
  · exact absurd h h15
  · refine mm_bipush (v := -2) rfl (by decide) ?_
    refine mm_ireturn rfl rfl rfl (by decide) (by decide) ?_
    exact ⟨rfl, rfl, rfl, rfl⟩
set_option maxRecDepth 100000 in
set_option maxHeartbeats 4000000 in
theorem sR_killRegion2 {E : mm_E} {G : mm_G} {J : mm_J} (hG : mm_GI G) {q k : Nat} (hp : J 69 5 = nI q) (hq : q ≤ 100) (hk : J 69 6 = nI k) (hk2 : k ≤ 100) (h : ¬ k = q) {J2 : mm_J} (hkp : mm_Ret E qR_keep [.ref 69, .int (nI (min k q)), .int (nI (max k q - min k q)), .int (nI 0)] 86 J G none 86 J2 G) : mm_Ret E qR_killRegion [.ref 69, .int (nI 1)] 86 J G (some (.int (nI 0))) 86 J2 G := by
  refine mm_Met.of qR_killRegion_ok (by decide) (mm_cats rfl) (Nat.le_of_ble_eq_true rfl) ?_
  refine mm_aload_n rfl rfl ?_
  refine mm_getI (x := nI k) rfl rfl rfl (by decide) rfl hk ?_
  refine mm_if_ltN (tgt := 18) rfl (by decide) (by omega) ?_
  refine mm_aload_n rfl rfl ?_
  refine mm_getI (x := nI k) rfl rfl rfl (by decide) rfl hk ?_
  refine mm_aload_n rfl rfl ?_
  refine mm_getI (x := nI q) rfl rfl rfl (by decide) rfl hp ?_
  refine mm_icmp_neN (tgt := 21) rfl (by decide) (by omega) (by omega) (fun h15 => ?_) (fun h15 => ?_)
  · refine mm_aload_n rfl rfl ?_
    refine mm_getI (x := nI k) rfl rfl rfl (by decide) rfl hk ?_
    refine mm_aload_n rfl rfl ?_
    refine mm_getI (x := nI q) rfl rfl rfl (by decide) rfl hp ?_
    refine mm_icmp_geN (tgt := 39) rfl (by decide) (by omega) (by omega) (fun h29 => ?_) (fun h29 => ?_)
    · refine mm_aload_n rfl rfl ?_
      refine mm_getI (x := nI q) rfl rfl rfl (by decide) rfl hp ?_
      refine mm_istore_n rfl (by decide) ?_
      refine mm_aload_n rfl rfl ?_
      refine mm_getI (x := nI k) rfl rfl rfl (by decide) rfl hk ?_
      refine mm_aload_n rfl rfl ?_
      refine mm_getI (x := nI q) rfl rfl rfl (by decide) rfl hp ?_
      refine mm_icmp_geN (tgt := 67) rfl (by decide) (by omega) (by omega) (fun h52 => ?_) (fun h52 => ?_)
      · refine mm_aload_n rfl rfl ?_
        refine mm_getI (x := nI k) rfl rfl rfl (by decide) rfl hk ?_
        refine mm_aload_n rfl rfl ?_
        refine mm_getI (x := nI q) rfl rfl rfl (by decide) rfl hp ?_
        refine mm_isubN rfl (by omega) ?_
        refine mm_istore_n rfl (by decide) ?_
        rw [show min k q = q by omega, show max k q = k by omega] at *
        refine mm_aload_n rfl rfl ?_
        refine mm_iload_n rfl rfl ?_
        refine mm_iload_n rfl rfl ?_
        refine mm_iconst (v := nI 0) rfl (by decide) ?_
        refine mm_isV3 (M2 := qR_keep) wd_689 qR_keep_k (by decide) hkp rfl (by decide) (Nat.le_of_ble_eq_true rfl) (by decide) (by decide) rfl (by decide) ?_
        refine mm_iload_n rfl rfl ?_
        refine mm_if_eqN (tgt := 92) rfl (by decide) (by decide) (fun h85 => ?_) (fun h85 => ?_)
        · exact absurd h85 (by decide)
        · refine mm_iconst (v := nI 0) rfl (by decide) ?_
          refine mm_goto (tgt := 98) rfl (by decide) ?_
          refine mm_ireturn rfl rfl rfl (by decide) (by decide) ?_
          exact ⟨rfl, rfl, rfl, rfl⟩
      · exact absurd h52 (by omega)
    · refine mm_aload_n rfl rfl ?_
      refine mm_getI (x := nI k) rfl rfl rfl (by decide) rfl hk ?_
      refine mm_goto (tgt := 43) rfl (by decide) ?_
      refine mm_istore_n rfl (by decide) ?_
      refine mm_aload_n rfl rfl ?_
      refine mm_getI (x := nI k) rfl rfl rfl (by decide) rfl hk ?_
      refine mm_aload_n rfl rfl ?_
      refine mm_getI (x := nI q) rfl rfl rfl (by decide) rfl hp ?_
      refine mm_icmp_geN (tgt := 67) rfl (by decide) (by omega) (by omega) (fun h52 => ?_) (fun h52 => ?_)
      · exact absurd h52 (by omega)
      · refine mm_aload_n rfl rfl ?_
        refine mm_getI (x := nI q) rfl rfl rfl (by decide) rfl hp ?_
        refine mm_aload_n rfl rfl ?_
        refine mm_getI (x := nI k) rfl rfl rfl (by decide) rfl hk ?_
        refine mm_isubN rfl (by omega) ?_
        refine mm_goto (tgt := 76) rfl (by decide) ?_
        refine mm_istore_n rfl (by decide) ?_
        rw [show min k q = k by omega, show max k q = q by omega] at *
        refine mm_aload_n rfl rfl ?_
        refine mm_iload_n rfl rfl ?_
        refine mm_iload_n rfl rfl ?_
        refine mm_iconst (v := nI 0) rfl (by decide) ?_
        refine mm_isV3 (M2 := qR_keep) wd_689 qR_keep_k (by decide) hkp rfl (by decide) (Nat.le_of_ble_eq_true rfl) (by decide) (by decide) rfl (by decide) ?_
        refine mm_iload_n rfl rfl ?_
        refine mm_if_eqN (tgt := 92) rfl (by decide) (by decide) (fun h85 => ?_) (fun h85 => ?_)
        · exact absurd h85 (by decide)
        · refine mm_iconst (v := nI 0) rfl (by decide) ?_
          refine mm_goto (tgt := 98) rfl (by decide) ?_
          refine mm_ireturn rfl rfl rfl (by decide) (by decide) ?_
          exact ⟨rfl, rfl, rfl, rfl⟩
  · exact absurd h15 h
set_option maxRecDepth 100000 in
set_option maxHeartbeats 4000000 in
theorem sR_killRegion3 {E : mm_E} {G : mm_G} {J : mm_J} (hG : mm_GI G) {q k : Nat} (hp : J 69 5 = nI q) (hq : q ≤ 100) (hk : J 69 6 = nI k) (hk2 : k ≤ 100) (h : ¬ k = q) {J2 : mm_J} (hkp : mm_Ret E qR_keep [.ref 69, .int (nI (min k q)), .int (nI (max k q - min k q)), .int (nI 0)] 86 J G none 86 J2 G) {r : Int32} {J3 : mm_J} (he : mm_Ret E qR_erase [.ref 69, .int (nI (min k q)), .int (nI (max k q - min k q))] 86 J2 G (some (.int r)) 86 J3 G) : mm_Ret E qR_killRegion [.ref 69, .int (nI 0)] 86 J G (some (.int r)) 86 J3 G := by
  refine mm_Met.of qR_killRegion_ok (by decide) (mm_cats rfl) (Nat.le_of_ble_eq_true rfl) ?_
  refine mm_aload_n rfl rfl ?_
  refine mm_getI (x := nI k) rfl rfl rfl (by decide) rfl hk ?_
  refine mm_if_ltN (tgt := 18) rfl (by decide) (by omega) ?_
  refine mm_aload_n rfl rfl ?_
  refine mm_getI (x := nI k) rfl rfl rfl (by decide) rfl hk ?_
  refine mm_aload_n rfl rfl ?_
  refine mm_getI (x := nI q) rfl rfl rfl (by decide) rfl hp ?_
  refine mm_icmp_neN (tgt := 21) rfl (by decide) (by omega) (by omega) (fun h15 => ?_) (fun h15 => ?_)
  · refine mm_aload_n rfl rfl ?_
    refine mm_getI (x := nI k) rfl rfl rfl (by decide) rfl hk ?_
    refine mm_aload_n rfl rfl ?_
    refine mm_getI (x := nI q) rfl rfl rfl (by decide) rfl hp ?_
    refine mm_icmp_geN (tgt := 39) rfl (by decide) (by omega) (by omega) (fun h29 => ?_) (fun h29 => ?_)
    · refine mm_aload_n rfl rfl ?_
      refine mm_getI (x := nI q) rfl rfl rfl (by decide) rfl hp ?_
      refine mm_istore_n rfl (by decide) ?_
      refine mm_aload_n rfl rfl ?_
      refine mm_getI (x := nI k) rfl rfl rfl (by decide) rfl hk ?_
      refine mm_aload_n rfl rfl ?_
      refine mm_getI (x := nI q) rfl rfl rfl (by decide) rfl hp ?_
      refine mm_icmp_geN (tgt := 67) rfl (by decide) (by omega) (by omega) (fun h52 => ?_) (fun h52 => ?_)
      · refine mm_aload_n rfl rfl ?_
        refine mm_getI (x := nI k) rfl rfl rfl (by decide) rfl hk ?_
        refine mm_aload_n rfl rfl ?_
        refine mm_getI (x := nI q) rfl rfl rfl (by decide) rfl hp ?_
        refine mm_isubN rfl (by omega) ?_
        refine mm_istore_n rfl (by decide) ?_
        rw [show min k q = q by omega, show max k q = k by omega] at *
        refine mm_aload_n rfl rfl ?_
        refine mm_iload_n rfl rfl ?_
        refine mm_iload_n rfl rfl ?_
        refine mm_iconst (v := nI 0) rfl (by decide) ?_
        refine mm_isV3 (M2 := qR_keep) wd_689 qR_keep_k (by decide) hkp rfl (by decide) (Nat.le_of_ble_eq_true rfl) (by decide) (by decide) rfl (by decide) ?_
        refine mm_iload_n rfl rfl ?_
        refine mm_if_eqN (tgt := 92) rfl (by decide) (by decide) (fun h85 => ?_) (fun h85 => ?_)
        · refine mm_aload_n rfl rfl ?_
          refine mm_iload_n rfl rfl ?_
          refine mm_iload_n rfl rfl ?_
          refine mm_isV2 (M2 := qR_erase) wd_677 qR_erase_k (by decide) he rfl (by decide) (Nat.le_of_ble_eq_true rfl) (by decide) (by decide) rfl (by decide) ?_
          refine mm_ireturn rfl rfl rfl (by decide) (by decide) ?_
          exact ⟨rfl, rfl, rfl, rfl⟩
        · exact absurd rfl h85
      · exact absurd h52 (by omega)
    · refine mm_aload_n rfl rfl ?_
      refine mm_getI (x := nI k) rfl rfl rfl (by decide) rfl hk ?_
      refine mm_goto (tgt := 43) rfl (by decide) ?_
      refine mm_istore_n rfl (by decide) ?_
      refine mm_aload_n rfl rfl ?_
      refine mm_getI (x := nI k) rfl rfl rfl (by decide) rfl hk ?_
      refine mm_aload_n rfl rfl ?_
      refine mm_getI (x := nI q) rfl rfl rfl (by decide) rfl hp ?_
      refine mm_icmp_geN (tgt := 67) rfl (by decide) (by omega) (by omega) (fun h52 => ?_) (fun h52 => ?_)
      · exact absurd h52 (by omega)
      · refine mm_aload_n rfl rfl ?_
        refine mm_getI (x := nI q) rfl rfl rfl (by decide) rfl hp ?_
        refine mm_aload_n rfl rfl ?_
        refine mm_getI (x := nI k) rfl rfl rfl (by decide) rfl hk ?_
        refine mm_isubN rfl (by omega) ?_
        refine mm_goto (tgt := 76) rfl (by decide) ?_
        refine mm_istore_n rfl (by decide) ?_
        rw [show min k q = k by omega, show max k q = q by omega] at *
        refine mm_aload_n rfl rfl ?_
        refine mm_iload_n rfl rfl ?_
        refine mm_iload_n rfl rfl ?_
        refine mm_iconst (v := nI 0) rfl (by decide) ?_
        refine mm_isV3 (M2 := qR_keep) wd_689 qR_keep_k (by decide) hkp rfl (by decide) (Nat.le_of_ble_eq_true rfl) (by decide) (by decide) rfl (by decide) ?_
        refine mm_iload_n rfl rfl ?_
        refine mm_if_eqN (tgt := 92) rfl (by decide) (by decide) (fun h85 => ?_) (fun h85 => ?_)
        · refine mm_aload_n rfl rfl ?_
          refine mm_iload_n rfl rfl ?_
          refine mm_iload_n rfl rfl ?_
          refine mm_isV2 (M2 := qR_erase) wd_677 qR_erase_k (by decide) he rfl (by decide) (Nat.le_of_ble_eq_true rfl) (by decide) (by decide) rfl (by decide) ?_
          refine mm_ireturn rfl rfl rfl (by decide) (by decide) ?_
          exact ⟨rfl, rfl, rfl, rfl⟩
        · exact absurd rfl h85
  · exact absurd h15 h
