theorem ed_st_o {J : mm_J} {m p d s a b : Nat} (h : ¬ a = 16 ∧ ¬ a = 17 ∧ ¬ a = 18 ∧ ¬ (20 ≤ a ∧ a < 60)) : ed_st J m p d s a b = J a b := by
  have hk : (m + 1) % 20 < 20 := ed_mod
  unfold ed_st
  generalize (m + 1) % 20 = k at hk ⊢
  simp [mm_set, mm_cp, h.1, h.2.1, h.2.2.1, show ¬ a = 20 + 2 * k by omega, show ¬ a = 20 + 2 * k + 1 by omega]
theorem mm_GI_sg {G : mm_G} {i : Nat} {v : Option Nat} (h : mm_GI G) : mm_GI (mm_sg G 7 i v) := by
  refine ⟨fun x hx => ?_, fun k hk => ?_, fun q hq => ?_⟩
  · have : ¬ x = 7 := fun e => by subst e; exact absurd hx (by decide)
    simp [mm_sg, this, h.1 x hx]
  · simp [mm_sg, h.2.1 k hk]
  · have : ∀ q ∈ mm_lkL, ¬ q.1 = 7 := by decide
    simp [mm_sg, this q hq, h.2.2 q hq]
theorem ed_nb {b : Nat} (h : b < 2) : narrow .boolean (.int (nI b)) = .int (nI b) := by
  rcases (show b = 0 ∨ b = 1 by omega) with rfl | rfl <;> rfl
def ed_at (f g : Nat → Int32) (p l : Nat) : Bool := decide (∀ i, i < l → f (p + i) = g i)
set_option maxRecDepth 100000 in
set_option maxHeartbeats 4000000 in
theorem sH_edit0 {E : mm_E} {G : mm_G} {J : mm_J} (hG : mm_GI G) {x : Nat} (hx : mm_SH x = .inl 2) {n p d s : Nat} (hn : J 2 1 = nI n) (hn2 : n ≤ 100) (hs : J x 1 = nI s) (hs2 : s ≤ 100) (hpd : p + d ≤ n) {jo : Nat} (h : 100 < n - d + s) : mm_Ret E qH_edit [.ref 16, .ref 1, .int (nI p), .int (nI d), .ref x, .int (nI jo)] 86 J G (some (.int (-3))) 86 J G := by
  refine mm_Met.of qH_edit_ok (by decide) (mm_cats rfl) (Nat.le_of_ble_eq_true rfl) ?_
  refine mm_aload_n rfl rfl ?_
  refine mm_iload_n rfl rfl ?_
  refine mm_iload_n rfl rfl ?_
  refine mm_aload rfl rfl ?_
  refine mm_isV3 (M2 := qT_takes) wd_244 qT_takes_k (by decide) (sT_takes0 hG hx hn hn2 hs hs2 hpd h) rfl (by decide) (Nat.le_of_ble_eq_true rfl) (by decide) (by decide) rfl (by decide) ?_
  refine mm_if_neN (tgt := 14) rfl (by decide) (by omega) (fun h8 => ?_) (fun h8 => ?_)
  · exact absurd rfl h8
  · refine mm_bipush (v := -3) rfl (by decide) ?_
    refine mm_ireturn rfl rfl rfl (by decide) (by decide) ?_
    exact ⟨rfl, rfl, rfl, rfl⟩
set_option maxRecDepth 100000 in
set_option maxHeartbeats 4000000 in
theorem sH_edit1 {E : mm_E} {G : mm_G} {J : mm_J} (hG : mm_GI G) {x : Nat} (hx : mm_SH x = .inl 2) {n p d s : Nat} (hn : J 2 1 = nI n) (hn2 : n ≤ 100) (hs : J x 1 = nI s) (hs2 : s ≤ 100) (hpd : p + d ≤ n) (hxr : 6 ≤ x ∧ ¬ (16 ≤ x ∧ x < 60)) (hs3 : n - d + s ≤ 100) (hpl : ∀ i, i < 5 → ed_vp (J 4 i)) (hfo : ∀ i, i < 5 → ed_vb (J 5 i)) {m : Nat} (hm : J 16 3 = nI m) (hm2 : m < 2 ^ 30) : mm_Ret E qH_edit [.ref 16, .ref 1, .int (nI p), .int (nI d), .ref x, .int (nI 0)] 86 J G (some (.int (nI 0))) 86 (ed_rp (ed_st J m p d s) x n p d s) G := by
  refine mm_Met.of qH_edit_ok (by decide) (mm_cats rfl) (Nat.le_of_ble_eq_true rfl) ?_
  refine mm_aload_n rfl rfl ?_
  refine mm_iload_n rfl rfl ?_
  refine mm_iload_n rfl rfl ?_
  refine mm_aload rfl rfl ?_
  refine mm_isV3 (M2 := qT_takes) wd_244 qT_takes_k (by decide) (sT_takes1 hG hx hn hn2 hs hs2 hpd hs3) rfl (by decide) (Nat.le_of_ble_eq_true rfl) (by decide) (by decide) rfl (by decide) ?_
  refine mm_if_neN (tgt := 14) rfl (by decide) (by omega) (fun h8 => ?_) (fun h8 => ?_)
  · refine mm_iload rfl rfl ?_
    refine mm_if_eqN (tgt := 42) rfl (by decide) (by omega) (fun h16 => ?_) (fun h16 => ?_)
    · refine mm_aload_n rfl rfl ?_
      refine mm_dup rfl rfl ?_
      refine mm_getI (x := nI m) rfl rfl rfl (by decide) rfl hm ?_
      refine mm_iconst (v := nI 1) rfl (by decide) ?_
      refine mm_iaddN rfl ?_
      refine mm_putI rfl rfl rfl (by decide) rfl (Or.inl rfl) rfl rfl ?_
      refine mm_aload_n rfl rfl ?_
      refine mm_getI (x := nI (m + 1)) rfl rfl rfl (by decide) rfl (by simp [mm_set]) ?_
      refine mm_isS1 (M2 := qH_slotOf) wd_234 qH_slotOf_k (by decide) (sH_slotOf (by omega)) (Nat.le_of_ble_eq_true rfl) (by decide) (by decide) rfl (by decide) ?_
      refine mm_istore rfl (by decide) ?_
      refine mm_aload_n rfl rfl ?_
      refine mm_getR rfl rfl rfl (by decide) rfl (mm_gi hG 16 0 17 (by decide)) ?_
      refine mm_iload rfl rfl ?_
      refine mm_iload_n rfl rfl ?_
      refine mm_wrN rfl (by decide) rfl (by decide) ed_mod (by decide) rfl ?_
      refine mm_aload_n rfl rfl ?_
      refine mm_getR rfl rfl rfl (by decide) rfl (mm_gi hG 16 1 18 (by decide)) ?_
      refine mm_iload rfl rfl ?_
      refine mm_aload rfl rfl ?_
      refine mm_getI (x := nI s) rfl rfl hx (mm_l1 hx) rfl (by simp [mm_set, mm_cp, hs, show ¬ x = 16 by omega, show ¬ x = 17 by omega, show ¬ x = 18 by omega]) ?_
      refine mm_wrN rfl (by decide) rfl (by decide) ed_mod (by decide) rfl ?_
      refine mm_aload_n rfl rfl ?_
      refine mm_getR rfl rfl rfl (by decide) rfl (mm_gi hG 16 2 19 (by decide)) ?_
      refine mm_iload rfl rfl ?_
      refine mm_rrN rfl (by decide) rfl rfl (by decide) ed_mod (by decide) (hG.2.1 _ ed_mod) rfl ?_
      refine mm_isV0 (M2 := qL_clear) wd_248 qL_clear_k (by decide) (sL_clear hG (mm_sy _ ed_mod)) (mm_sy _ ed_mod) (mm_l1 (mm_sy _ ed_mod)) (Nat.le_of_ble_eq_true rfl) (by decide) (by decide) rfl (by decide) ?_
      refine mm_aload_n rfl rfl ?_
      refine mm_getR rfl rfl rfl (by decide) rfl (mm_gi hG 16 2 19 (by decide)) ?_
      refine mm_iload rfl rfl ?_
      refine mm_rrN rfl (by decide) rfl rfl (by decide) ed_mod (by decide) (hG.2.1 _ ed_mod) rfl ?_
      refine mm_aload_n rfl rfl ?_
      refine mm_getR rfl rfl rfl (by decide) rfl (mm_gi hG 1 0 2 (by decide)) ?_
      refine mm_iload_n rfl rfl ?_
      refine mm_iload_n rfl rfl ?_
      refine mm_iload_n rfl rfl ?_
      refine mm_iaddN rfl ?_
      have hk20 : (m + 1) % 20 < 20 := ed_mod
      refine mm_isV3 (M2 := qL_append) wd_249 qL_append_k (by decide) (sL_append (y := 2) (k := 0) (m := n) hG (mm_sy _ ed_mod) rfl (by omega) (by simp [mm_set]) (by simp [mm_set, hn, show ¬ 2 = 20 + 2 * ((m + 1) % 20) by omega]) (by omega) hpd hn2 (by omega)) (mm_sy _ ed_mod) (mm_l1 (mm_sy _ ed_mod)) (Nat.le_of_ble_eq_true rfl) (by decide) (by decide) rfl (by decide) ?_
      rw [show p + d - p = d by omega, Nat.zero_add]
      refine mm_aload_n rfl rfl ?_
      refine mm_iload_n rfl rfl ?_
      refine mm_iload_n rfl rfl ?_
      refine mm_aload rfl rfl ?_
      refine mm_isV3 (M2 := qT_replace) wd_256 qT_replace_k (by decide) (sT_replace (J := ed_st J m p d s) hG hx hxr.1 ((ed_st_o (by omega)).trans hn) hn2 ((ed_st_o (by omega)).trans hs) hs2 hpd hs3 (fun i hi => by rw [ed_st_o (by omega)]; exact hpl i hi) (fun i hi => by rw [ed_st_o (by omega)]; exact hfo i hi)) rfl (by decide) (Nat.le_of_ble_eq_true rfl) (by decide) (by decide) rfl (by decide) ?_
      refine mm_iconst (v := nI 0) rfl (by decide) ?_
      refine mm_ireturn rfl rfl rfl (by decide) (by decide) ?_
      exact ⟨rfl, rfl, rfl, rfl⟩
    · exact absurd rfl h16
  · exact absurd h8 (by decide)
set_option maxRecDepth 100000 in
set_option maxHeartbeats 4000000 in
theorem sH_edit2 {E : mm_E} {G : mm_G} {J : mm_J} (hG : mm_GI G) {x : Nat} (hx : mm_SH x = .inl 2) {n p d s : Nat} (hn : J 2 1 = nI n) (hn2 : n ≤ 100) (hs : J x 1 = nI s) (hs2 : s ≤ 100) (hpd : p + d ≤ n) (hxr : 6 ≤ x ∧ ¬ (16 ≤ x ∧ x < 60)) (hs3 : n - d + s ≤ 100) (hpl : ∀ i, i < 5 → ed_vp (J 4 i)) (hfo : ∀ i, i < 5 → ed_vb (J 5 i)) {m : Nat} (hm : J 16 3 = nI m) (hm2 : m < 2 ^ 30) {q : Nat} (hq : J 18 (m % 20) = nI q) : mm_Ret E qH_edit [.ref 16, .ref 1, .int (nI p), .int (nI d), .ref x, .int (nI 1)] 86 J G (some (.int (nI 0))) 86 (ed_rp (mm_set J 18 (m % 20) (nI (q + s))) x n p d s) G := by
  refine mm_Met.of qH_edit_ok (by decide) (mm_cats rfl) (Nat.le_of_ble_eq_true rfl) ?_
  refine mm_aload_n rfl rfl ?_
  refine mm_iload_n rfl rfl ?_
  refine mm_iload_n rfl rfl ?_
  refine mm_aload rfl rfl ?_
  refine mm_isV3 (M2 := qT_takes) wd_244 qT_takes_k (by decide) (sT_takes1 hG hx hn hn2 hs hs2 hpd hs3) rfl (by decide) (Nat.le_of_ble_eq_true rfl) (by decide) (by decide) rfl (by decide) ?_
  refine mm_if_neN (tgt := 14) rfl (by decide) (by omega) (fun h8 => ?_) (fun h8 => ?_)
  · refine mm_iload rfl rfl ?_
    refine mm_if_eqN (tgt := 42) rfl (by decide) (by omega) (fun h16 => ?_) (fun h16 => ?_)
    · exact absurd h16 (by decide)
    · refine mm_aload_n rfl rfl ?_
      refine mm_getR rfl rfl rfl (by decide) rfl (mm_gi hG 16 1 18 (by decide)) ?_
      refine mm_aload_n rfl rfl ?_
      refine mm_getI (x := nI m) rfl rfl rfl (by decide) rfl hm ?_
      refine mm_isS1 (M2 := qH_slotOf) wd_234 qH_slotOf_k (by decide) (sH_slotOf (by omega)) (Nat.le_of_ble_eq_true rfl) (by decide) (by decide) rfl (by decide) ?_
      refine mm_dup2 rfl rfl rfl ?_
      refine mm_rdN rfl (by decide) rfl (by decide) ed_mod (by decide) rfl hq ?_
      refine mm_aload rfl rfl ?_
      refine mm_getI (x := nI s) rfl rfl hx (mm_l1 hx) rfl hs ?_
      refine mm_iaddN rfl ?_
      refine mm_wrN rfl (by decide) rfl (by decide) ed_mod (by decide) rfl ?_
      refine mm_goto (tgt := 109) rfl (by decide) ?_
      refine mm_aload_n rfl rfl ?_
      refine mm_iload_n rfl rfl ?_
      refine mm_iload_n rfl rfl ?_
      refine mm_aload rfl rfl ?_
      refine mm_isV3 (M2 := qT_replace) wd_256 qT_replace_k (by decide) (sT_replace (J := mm_set J 18 (m % 20) (nI (q + s))) hG hx hxr.1 (by simp [mm_set, hn]) hn2 (by simp [mm_set, hs, show ¬ x = 16 by omega, show ¬ x = 17 by omega, show ¬ x = 18 by omega]) hs2 hpd hs3 (fun i hi => by simpa [mm_set] using hpl i hi) (fun i hi => by simpa [mm_set] using hfo i hi)) rfl (by decide) (Nat.le_of_ble_eq_true rfl) (by decide) (by decide) rfl (by decide) ?_
      refine mm_iconst (v := nI 0) rfl (by decide) ?_
      refine mm_ireturn rfl rfl rfl (by decide) (by decide) ?_
      exact ⟨rfl, rfl, rfl, rfl⟩
  · exact absurd h8 (by decide)
set_option maxRecDepth 100000 in
set_option maxHeartbeats 4000000 in
theorem sK_makeNewest {E : mm_E} {G : mm_G} {J : mm_J} (hG : mm_GI G) {r0 r1 r2 r3 : Nat} (g0 : G 7 0 = some r0) (g1 : G 7 1 = some r1) (g2 : G 7 2 = some r2) (g3 : G 7 3 = some r3) (e0 : mm_SH r0 = .inl 2) (e1 : mm_SH r1 = .inl 2) (e2 : mm_SH r2 = .inl 2) (e3 : mm_SH r3 = .inl 2) (h6 : 8 ≤ r3) {c : Nat} (hc : J 6 1 = nI c) (hc2 : c ≤ 4) : mm_Ret E qK_makeNewest [.ref 6] 86 J G none 86 (mm_set (mm_set J r3 1 (nI 0)) 6 1 (nI (min (c + 1) 4))) (mm_sg (mm_sg (mm_sg (mm_sg G 7 3 (some r2)) 7 2 (some r1)) 7 1 (some r0)) 7 0 (some r3)) := by
  refine mm_Met.of qK_makeNewest_ok (by decide) (mm_cats rfl) (Nat.le_of_ble_eq_true rfl) ?_
  refine mm_aload_n rfl rfl ?_
  refine mm_getR rfl rfl rfl (by decide) rfl (mm_gi hG 6 0 7 (by decide)) ?_
  refine mm_iconst (v := nI 3) rfl (by decide) ?_
  refine mm_rrN rfl (by decide) rfl rfl (by decide) (by decide) (by decide) g3 rfl ?_
  refine mm_astore_n rfl (by decide) ?_
  refine mm_iconst (v := nI 3) rfl (by decide) ?_
  refine mm_istore_n rfl (by decide) ?_
  skip
  refine mm_iload_n rfl rfl ?_
  refine mm_if_leN (tgt := 33) rfl (by decide) (by decide) (fun h => absurd h (by decide)) (fun _ => ?_)
  refine mm_aload_n rfl rfl ?_
  refine mm_getR rfl rfl rfl (by decide) rfl (mm_gi hG 6 0 7 (by decide)) ?_
  refine mm_iload_n rfl rfl ?_
  refine mm_aload_n rfl rfl ?_
  refine mm_getR rfl rfl rfl (by decide) rfl (mm_gi hG 6 0 7 (by decide)) ?_
  refine mm_iload_n rfl rfl ?_
  refine mm_iconst (v := nI 1) rfl (by decide) ?_
  refine mm_isubN rfl (by decide) ?_
  refine mm_rrN rfl (by decide) rfl rfl (by decide) (by decide) (by decide) g2 rfl ?_
  refine mm_wqN rfl (by decide) rfl (by decide) (by decide) (by decide) (mm_l1 e2) e2 rfl rfl ?_
  refine mm_iincN rfl rfl (mm_dec1 (by decide)) (by decide) ?_
  refine mm_goto (tgt := 9) rfl (by decide) ?_
  skip
  refine mm_iload_n rfl rfl ?_
  refine mm_if_leN (tgt := 33) rfl (by decide) (by decide) (fun h => absurd h (by decide)) (fun _ => ?_)
  refine mm_aload_n rfl rfl ?_
  refine mm_getR rfl rfl rfl (by decide) rfl (mm_gi (mm_GI_sg hG) 6 0 7 (by decide)) ?_
  refine mm_iload_n rfl rfl ?_
  refine mm_aload_n rfl rfl ?_
  refine mm_getR rfl rfl rfl (by decide) rfl (mm_gi (mm_GI_sg hG) 6 0 7 (by decide)) ?_
  refine mm_iload_n rfl rfl ?_
  refine mm_iconst (v := nI 1) rfl (by decide) ?_
  refine mm_isubN rfl (by decide) ?_
  refine mm_rrN (b := r1) rfl (by decide) rfl rfl (by decide) (by decide) (by decide) (by simp [mm_sg, g1]) rfl ?_
  refine mm_wqN rfl (by decide) rfl (by decide) (by decide) (by decide) (mm_l1 e1) e1 rfl rfl ?_
  refine mm_iincN rfl rfl (mm_dec1 (by decide)) (by decide) ?_
  refine mm_goto (tgt := 9) rfl (by decide) ?_
  skip
  refine mm_iload_n rfl rfl ?_
  refine mm_if_leN (tgt := 33) rfl (by decide) (by decide) (fun h => absurd h (by decide)) (fun _ => ?_)
  refine mm_aload_n rfl rfl ?_
  refine mm_getR rfl rfl rfl (by decide) rfl (mm_gi (mm_GI_sg (mm_GI_sg hG)) 6 0 7 (by decide)) ?_
  refine mm_iload_n rfl rfl ?_
  refine mm_aload_n rfl rfl ?_
  refine mm_getR rfl rfl rfl (by decide) rfl (mm_gi (mm_GI_sg (mm_GI_sg hG)) 6 0 7 (by decide)) ?_
  refine mm_iload_n rfl rfl ?_
  refine mm_iconst (v := nI 1) rfl (by decide) ?_
  refine mm_isubN rfl (by decide) ?_
  refine mm_rrN (b := r0) rfl (by decide) rfl rfl (by decide) (by decide) (by decide) (by simp [mm_sg, g0]) rfl ?_
  refine mm_wqN rfl (by decide) rfl (by decide) (by decide) (by decide) (mm_l1 e0) e0 rfl rfl ?_
  refine mm_iincN rfl rfl (mm_dec1 (by decide)) (by decide) ?_
  refine mm_goto (tgt := 9) rfl (by decide) ?_
  skip
  refine mm_iload_n rfl rfl ?_
  refine mm_if_leN (tgt := 33) rfl (by decide) (by decide) (fun _ => ?_) (fun h => absurd h (by decide))
  refine mm_aload_n rfl rfl ?_
  refine mm_isV0 (M2 := qL_clear) wd_359 qL_clear_k (by decide) (sL_clear (mm_GI_sg (mm_GI_sg (mm_GI_sg hG))) e3) e3 (mm_l1 e3) (Nat.le_of_ble_eq_true rfl) (by decide) (by decide) rfl (by decide) ?_
  refine mm_aload_n rfl rfl ?_
  refine mm_getR rfl rfl rfl (by decide) rfl (mm_gi (mm_GI_sg (mm_GI_sg (mm_GI_sg hG))) 6 0 7 (by decide)) ?_
  refine mm_iconst (v := nI 0) rfl (by decide) ?_
  refine mm_aload_n rfl rfl ?_
  refine mm_wqN rfl (by decide) rfl (by decide) (by decide) (by decide) (mm_l1 e3) e3 rfl rfl ?_
  refine mm_aload_n rfl rfl ?_
  refine mm_aload_n rfl rfl ?_
  refine mm_getI (x := nI c) rfl rfl rfl (by decide) rfl (by simp [mm_set, mm_cp, hc, show ¬ 6 = r3 by omega]) ?_
  refine mm_iconst (v := nI 1) rfl (by decide) ?_
  refine mm_iaddN rfl ?_
  refine mm_iconst (v := nI 4) rfl (by decide) ?_
  refine mm_minN (by omega) (by omega) rfl wd_360 wd_299 wd_10 wd_300 (by decide) (Nat.le_of_ble_eq_true rfl) (by decide) (by decide) ?_
  refine mm_putI rfl rfl rfl (by decide) rfl (Or.inl rfl) rfl rfl ?_
  refine mm_return rfl rfl (by decide) (by decide) ?_
  exact ⟨rfl, rfl, rfl, rfl⟩
set_option maxRecDepth 100000 in
set_option maxHeartbeats 4000000 in
theorem sK_take1 {E : mm_E} {G : mm_G} {J : mm_J} (hG : mm_GI G) {r0 : Nat} (g0 : G 7 0 = some r0) (e0 : mm_SH r0 = .inl 2) (h0 : 8 ≤ r0) {n a b l : Nat} (hn : J 2 1 = nI n) (hn2 : n ≤ 100) (hl : J r0 1 = nI l) (hab : a ≤ b) (hb : b ≤ n) (hl2 : l + (b - a) ≤ 100) : mm_Ret E qK_take [.ref 6, .ref 2, .int (nI a), .int (nI b), .int (nI 1)] 86 J G none 86 (mm_set (mm_cp J 3 (r0 + 1) a l (b - a)) r0 1 (nI (l + (b - a)))) G := by
  refine mm_Met.of qK_take_ok (by decide) (mm_cats rfl) (Nat.le_of_ble_eq_true rfl) ?_
  refine mm_iload rfl rfl ?_
  refine mm_if_neN (tgt := 9) rfl (by decide) (by omega) (fun h2 => ?_) (fun h2 => ?_)
  · refine mm_aload_n rfl rfl ?_
    refine mm_getR rfl rfl rfl (by decide) rfl (mm_gi hG 6 0 7 (by decide)) ?_
    refine mm_iconst (v := nI 0) rfl (by decide) ?_
    refine mm_rrN rfl (by decide) rfl rfl (by decide) (by decide) (by decide) g0 rfl ?_
    refine mm_aload_n rfl rfl ?_
    refine mm_iload_n rfl rfl ?_
    refine mm_iload_n rfl rfl ?_
    refine mm_isV3 (M2 := qL_append) wd_361 qL_append_k (by decide) (sL_append (y := 2) hG e0 rfl (by omega) hl hn hab hb hn2 hl2) e0 (mm_l1 e0) (Nat.le_of_ble_eq_true rfl) (by decide) (by decide) rfl (by decide) ?_
    refine mm_return rfl rfl (by decide) (by decide) ?_
    exact ⟨rfl, rfl, rfl, rfl⟩
  · exact absurd h2 (by decide)
set_option maxRecDepth 100000 in
set_option maxHeartbeats 4000000 in
theorem sK_take0 {E : mm_E} {G : mm_G} {J : mm_J} (hG : mm_GI G) {r0 r1 r2 r3 : Nat} (g0 : G 7 0 = some r0) (g1 : G 7 1 = some r1) (g2 : G 7 2 = some r2) (g3 : G 7 3 = some r3) (e0 : mm_SH r0 = .inl 2) (e1 : mm_SH r1 = .inl 2) (e2 : mm_SH r2 = .inl 2) (e3 : mm_SH r3 = .inl 2) (h6 : 8 ≤ r3) {c : Nat} (hc : J 6 1 = nI c) (hc2 : c ≤ 4) {n a b : Nat} (hn : J 2 1 = nI n) (hn2 : n ≤ 100) (hab : a ≤ b) (hb : b ≤ n) : mm_Ret E qK_take [.ref 6, .ref 2, .int (nI a), .int (nI b), .int (nI 0)] 86 J G none 86 (mm_set (mm_cp (mm_set (mm_set J r3 1 (nI 0)) 6 1 (nI (min (c + 1) 4))) 3 (r3 + 1) a 0 (b - a)) r3 1 (nI (0 + (b - a)))) (mm_sg (mm_sg (mm_sg (mm_sg G 7 3 (some r2)) 7 2 (some r1)) 7 1 (some r0)) 7 0 (some r3)) := by
  refine mm_Met.of qK_take_ok (by decide) (mm_cats rfl) (Nat.le_of_ble_eq_true rfl) ?_
  refine mm_iload rfl rfl ?_
  refine mm_if_neN (tgt := 9) rfl (by decide) (by omega) (fun h2 => ?_) (fun h2 => ?_)
  · exact absurd rfl h2
  · refine mm_aload_n rfl rfl ?_
    refine mm_isV0 (M2 := qK_makeNewest) wd_355 qK_makeNewest_k (by decide) (sK_makeNewest hG g0 g1 g2 g3 e0 e1 e2 e3 h6 hc hc2) rfl (by decide) (Nat.le_of_ble_eq_true rfl) (by decide) (by decide) rfl (by decide) ?_
    refine mm_aload_n rfl rfl ?_
    refine mm_getR rfl rfl rfl (by decide) rfl (mm_gi (mm_GI_sg (mm_GI_sg (mm_GI_sg (mm_GI_sg hG)))) 6 0 7 (by decide)) ?_
    refine mm_iconst (v := nI 0) rfl (by decide) ?_
    refine mm_rrN (b := r3) rfl (by decide) rfl rfl (by decide) (by decide) (by decide) (by simp [mm_sg]) rfl ?_
    refine mm_aload_n rfl rfl ?_
    refine mm_iload_n rfl rfl ?_
    refine mm_iload_n rfl rfl ?_
    refine mm_isV3 (M2 := qL_append) wd_361 qL_append_k (by decide) (sL_append (y := 2) (k := 0) (mm_GI_sg (mm_GI_sg (mm_GI_sg (mm_GI_sg hG)))) e3 rfl (by omega) (by simp [mm_set, show ¬ r3 = 6 by omega]) (by simp [mm_set, hn, show ¬ 2 = r3 by omega]) hab hb hn2 (by omega)) e3 (mm_l1 e3) (Nat.le_of_ble_eq_true rfl) (by decide) (by decide) rfl (by decide) ?_
    refine mm_return rfl rfl (by decide) (by decide) ?_
    exact ⟨rfl, rfl, rfl, rfl⟩
set_option maxRecDepth 100000 in
set_option maxHeartbeats 4000000 in
theorem sV_note0 {E : mm_E} {G : mm_G} {J : mm_J} {c t : Int32} {z rc : Nat} (hr : J 63 3 = nI rc) (hr2 : rc < 2) (hz : J 63 2 = nI z) (hz2 : z ≤ 12) (h : rc = 0 ∨ z = 12) : mm_Ret E qV_note [.ref 63, .int c, .int t] 86 J G none 86 J G := by
  refine mm_Met.of qV_note_ok (by decide) (mm_cats rfl) (Nat.le_of_ble_eq_true rfl) ?_
  refine mm_aload_n rfl rfl ?_
  refine mm_getI (x := nI rc) rfl rfl rfl (by decide) rfl hr ?_
  refine mm_if_eqN (tgt := 46) rfl (by decide) (by omega) (fun h4 => ?_) (fun h4 => ?_)
  · refine mm_return rfl rfl (by decide) (by decide) ?_
    exact ⟨rfl, rfl, rfl, rfl⟩
  · refine mm_aload_n rfl rfl ?_
    refine mm_getI (x := nI z) rfl rfl rfl (by decide) rfl hz ?_
    refine mm_bipush (v := nI 12) rfl (by decide) ?_
    refine mm_icmp_geN (tgt := 46) rfl (by decide) (by omega) (by omega) (fun h13 => ?_) (fun h13 => ?_)
    · refine mm_return rfl rfl (by decide) (by decide) ?_
      exact ⟨rfl, rfl, rfl, rfl⟩
    · exact absurd h13 (by omega)
set_option maxRecDepth 100000 in
set_option maxHeartbeats 4000000 in
theorem sV_note1 {E : mm_E} {G : mm_G} {J : mm_J} (hG : mm_GI G) {c t : Int32} {z : Nat} (hr : J 63 3 = nI 1) (hz : J 63 2 = nI z) (hz2 : z < 12) (ht : narrow .boolean (.int t) = .int t) : mm_Ret E qV_note [.ref 63, .int c, .int t] 86 J G none 86 (mm_set (mm_set (mm_set J 64 z c) 65 z t) 63 2 (nI (z + 1))) G := by
  refine mm_Met.of qV_note_ok (by decide) (mm_cats rfl) (Nat.le_of_ble_eq_true rfl) ?_
  refine mm_aload_n rfl rfl ?_
  refine mm_getI (x := nI 1) rfl rfl rfl (by decide) rfl hr ?_
  refine mm_if_eqN (tgt := 46) rfl (by decide) (by omega) (fun h4 => ?_) (fun h4 => ?_)
  · exact absurd h4 (by decide)
  · refine mm_aload_n rfl rfl ?_
    refine mm_getI (x := nI z) rfl rfl rfl (by decide) rfl hz ?_
    refine mm_bipush (v := nI 12) rfl (by decide) ?_
    refine mm_icmp_geN (tgt := 46) rfl (by decide) (by omega) (by omega) (fun h13 => ?_) (fun h13 => ?_)
    · exact absurd h13 (by omega)
    · refine mm_aload_n rfl rfl ?_
      refine mm_getR rfl rfl rfl (by decide) rfl (mm_gi hG 63 0 64 (by decide)) ?_
      refine mm_aload_n rfl rfl ?_
      refine mm_getI (x := nI z) rfl rfl rfl (by decide) rfl hz ?_
      refine mm_iload_n rfl rfl ?_
      refine mm_wrN rfl (by decide) rfl (by decide) (by omega) (by decide) rfl ?_
      refine mm_aload_n rfl rfl ?_
      refine mm_getR rfl rfl rfl (by decide) rfl (mm_gi hG 63 1 65 (by decide)) ?_
      refine mm_aload_n rfl rfl ?_
      refine mm_getI (x := nI z) rfl rfl rfl (by decide) rfl (by simp [mm_set, mm_cp, hz]) ?_
      refine mm_iload_n rfl rfl ?_
      refine mm_wzN rfl (by decide) rfl (by decide) (by omega) (by decide) ht rfl ?_
      refine mm_aload_n rfl rfl ?_
      refine mm_dup rfl rfl ?_
      refine mm_getI (x := nI z) rfl rfl rfl (by decide) rfl (by simp [mm_set, mm_cp, hz]) ?_
      refine mm_iconst (v := nI 1) rfl (by decide) ?_
      refine mm_iaddN rfl ?_
      refine mm_putI rfl rfl rfl (by decide) rfl (Or.inl rfl) rfl rfl ?_
      refine mm_return rfl rfl (by decide) (by decide) ?_
      exact ⟨rfl, rfl, rfl, rfl⟩
set_option maxRecDepth 100000 in
set_option maxHeartbeats 4000000 in
theorem lL_has {E : mm_E} {G : mm_G} {J : mm_J} (hG : mm_GI G) {y : Nat} (hy : mm_SH y = .inl 2) {n l q : Nat} (hn : J 2 1 = nI n) (hn2 : n ≤ 100) (hl : J y 1 = nI l) (hl2 : l ≤ 100) (hq : q + l ≤ n) : ∀ (k i : Nat), l - i = k → i ≤ l → (∀ j, j < i → J 3 (q + j) = J (y + 1) j) → mm_Go E qL_has 21 [some (.ref 2), some (.ref y), some (.int (nI q)), some (.int (nI i))] [] 86 J G 0 0 (mm_Fm E qL_has (mm_is (some (.int (nI (ed_b (ed_at (J 3) (J (y + 1)) q l))))) 86 J G))
  | 0, i, hk, hi, hinv => by
    refine mm_iload_n rfl rfl ?_
    refine mm_aload_n rfl rfl ?_
    refine mm_getI (x := nI l) rfl rfl hy (mm_l1 hy) rfl hl ?_
    refine mm_icmp_geN (tgt := 54) rfl (by decide) (by omega) (by omega) (fun h26 => ?_) (fun h26 => ?_)
    · refine mm_iconst (v := nI 1) rfl (by decide) ?_
      refine mm_ireturn rfl rfl rfl (by decide) (by decide) ?_
      exact ⟨by rw [show ed_at (J 3) (J (y + 1)) q l = true from by simp only [ed_at, decide_eq_true_eq]; exact fun j hj => hinv j (by omega)]; rfl, rfl, rfl, rfl⟩
    · exact absurd h26 (by omega)
  | k + 1, i, hk, hi, hinv => by
    refine mm_iload_n rfl rfl ?_
    refine mm_aload_n rfl rfl ?_
    refine mm_getI (x := nI l) rfl rfl hy (mm_l1 hy) rfl hl ?_
    refine mm_icmp_geN (tgt := 54) rfl (by decide) (by omega) (by omega) (fun h26 => ?_) (fun h26 => ?_)
    · exact absurd h26 (by omega)
    · refine mm_aload_n rfl rfl ?_
      refine mm_getR rfl rfl rfl (by decide) rfl (mm_gi hG 2 0 3 (by decide)) ?_
      refine mm_iload_n rfl rfl ?_
      refine mm_iload_n rfl rfl ?_
      refine mm_iaddN rfl ?_
      refine mm_rdN rfl (by decide) rfl (by decide) (by omega) (by decide) rfl rfl ?_
      refine mm_aload_n rfl rfl ?_
      refine mm_getR rfl rfl hy (mm_l1 hy) rfl (hG.1 _ hy) ?_
      refine mm_iload_n rfl rfl ?_
      refine mm_rdN (mm_l2 hy) (by decide) rfl (mm_l3 hy) (by omega) (by decide) rfl rfl ?_
      refine mm_icmp_eq (tgt := 48) rfl (by decide) (fun h43 => ?_) (fun h43 => ?_)
      · refine mm_iincN rfl rfl (mm_inc1 _) (by decide) ?_
        refine mm_goto (tgt := 21) rfl (by decide) ?_
        exact lL_has hG hy hn hn2 hl hl2 hq k (i + 1) (by omega) (by omega) (fun j hj => by
          rcases Nat.lt_or_eq_of_le (Nat.le_of_lt_succ hj) with e | e
          · exact hinv j e
          · rw [e]; exact h43)
      · refine mm_iconst (v := nI 0) rfl (by decide) ?_
        refine mm_ireturn rfl rfl rfl (by decide) (by decide) ?_
        exact ⟨by rw [show ed_at (J 3) (J (y + 1)) q l = false from by simp only [ed_at, decide_eq_false_iff_not]; exact fun hh => h43 (hh i (by omega))]; rfl, rfl, rfl, rfl⟩
set_option maxRecDepth 100000 in
set_option maxHeartbeats 4000000 in
theorem sL_has {E : mm_E} {G : mm_G} {J : mm_J} (hG : mm_GI G) {y : Nat} (hy : mm_SH y = .inl 2) {n l q : Nat} (hn : J 2 1 = nI n) (hn2 : n ≤ 100) (hl : J y 1 = nI l) (hl2 : l ≤ 100) (hq : q + l ≤ n) : mm_Ret E qL_has [.ref 2, .ref y, .int (nI q)] 86 J G (some (.int (nI (ed_b (ed_at (J 3) (J (y + 1)) q l))))) 86 J G := by
  refine mm_Met.of qL_has_ok (by decide) (mm_cats rfl) (Nat.le_of_ble_eq_true rfl) ?_
  refine mm_iload_n rfl rfl ?_
  refine mm_if_ltN (tgt := 17) rfl (by decide) (by omega) ?_
  refine mm_iload_n rfl rfl ?_
  refine mm_aload_n rfl rfl ?_
  refine mm_getI (x := nI l) rfl rfl hy (mm_l1 hy) rfl hl ?_
  refine mm_iaddN rfl ?_
  refine mm_aload_n rfl rfl ?_
  refine mm_getI (x := nI n) rfl rfl rfl (by decide) rfl hn ?_
  refine mm_icmp_leN (tgt := 19) rfl (by decide) (by omega) (by omega) (fun h14 => ?_) (fun h14 => ?_)
  · refine mm_iconst (v := nI 0) rfl (by decide) ?_
    refine mm_istore_n rfl (by decide) ?_
    exact lL_has hG hy hn hn2 hl hl2 hq l 0 rfl (by omega) (fun j hj => absurd hj (by omega))
  · exact absurd h14 (by omega)
