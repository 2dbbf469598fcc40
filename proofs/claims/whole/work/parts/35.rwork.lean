set_option maxRecDepth 100000 in
set_option maxHeartbeats 4000000 in
theorem sR_move0 {E : mm_E} {G : mm_G} {J : mm_J} (hG : mm_GI G) {n q t : Nat} (hn : J 69 3 = nI n) (hn2 : n ≤ 100) (hp : J 69 5 = nI q) (hq : q ≤ n) (ht : J 69 7 = nI t) (ht9 : t ≤ 9)  : mm_Ret E qR_move [.ref 69, .int (nI 0)] 86 J G (some (.int (nI 0))) 86 (mm_set J 69 5 (nI (min (q + t) n))) G := by
  refine mm_Met.of qR_move_ok (by decide) (mm_cats rfl) (Nat.le_of_ble_eq_true rfl) ?_
  refine mm_iload_n rfl rfl ?_
  refine mm_if_neN (tgt := 40) rfl (by decide) (by decide) (fun h => absurd h (by decide)) (fun _ => ?_)
  refine mm_aload_n rfl rfl ?_
  refine mm_aload_n rfl rfl ?_
  refine mm_getI (x := nI q) rfl rfl rfl (by decide) rfl hp ?_
  refine mm_aload_n rfl rfl ?_
  refine mm_getI (x := nI t) rfl rfl rfl (by decide) rfl ht ?_
  refine mm_iaddN rfl ?_
  refine mm_aload_n rfl rfl ?_
  refine mm_getI (x := nI n) rfl rfl rfl (by decide) rfl hn ?_
  refine mm_icmp_geN (tgt := 33) rfl (by decide) (by omega) (by omega) (fun h18 => ?_) (fun h18 => ?_)
  · refine mm_aload_n rfl rfl ?_
    refine mm_getI (x := nI n) rfl rfl rfl (by decide) rfl hn ?_
    refine mm_putI rfl rfl rfl (by decide) rfl (Or.inl rfl) rfl rfl ?_
    refine mm_iload_n rfl rfl ?_
    refine mm_iconst (v := nI 1) rfl (by decide) ?_
    refine mm_icmp_neN (tgt := 73) rfl (by decide) (by decide) (by decide) (fun _ => ?_) (fun h => absurd h (by decide))
    refine mm_iload_n rfl rfl ?_
    refine mm_iconst (v := nI 2) rfl (by decide) ?_
    refine mm_icmp_eqN (tgt := 83) rfl (by decide) (by decide) (by decide) (fun h => absurd h (by decide)) (fun _ => ?_)
    refine mm_iload_n rfl rfl ?_
    refine mm_iconst (v := nI 3) rfl (by decide) ?_
    refine mm_icmp_neN (tgt := 88) rfl (by decide) (by decide) (by decide) (fun _ => ?_) (fun h => absurd h (by decide))
    refine mm_iload_n rfl rfl ?_
    refine mm_iconst (v := nI 4) rfl (by decide) ?_
    refine mm_icmp_neN (tgt := 105) rfl (by decide) (by decide) (by decide) (fun _ => ?_) (fun h => absurd h (by decide))
    refine mm_iload_n rfl rfl ?_
    refine mm_iconst (v := nI 5) rfl (by decide) ?_
    refine mm_icmp_neN (tgt := 122) rfl (by decide) (by decide) (by decide) (fun _ => ?_) (fun h => absurd h (by decide))
    refine mm_iload_n rfl rfl ?_
    refine mm_bipush (v := nI 6) rfl (by decide) ?_
    refine mm_icmp_eqN (tgt := 134) rfl (by decide) (by decide) (by decide) (fun h => absurd h (by decide)) (fun _ => ?_)
    refine mm_iload_n rfl rfl ?_
    refine mm_bipush (v := nI 7) rfl (by decide) ?_
    refine mm_icmp_neN (tgt := 149) rfl (by decide) (by decide) (by decide) (fun _ => ?_) (fun h => absurd h (by decide))
    refine mm_iload_n rfl rfl ?_
    refine mm_bipush (v := nI 15) rfl (by decide) ?_
    refine mm_icmp_neN (tgt := 163) rfl (by decide) (by decide) (by decide) (fun _ => ?_) (fun h => absurd h (by decide))
    refine mm_iload_n rfl rfl ?_
    refine mm_bipush (v := nI 18) rfl (by decide) ?_
    refine mm_icmp_eqN (tgt := 171) rfl (by decide) (by decide) (by decide) (fun h => absurd h (by decide)) (fun _ => ?_)
    refine mm_iconst (v := nI 0) rfl (by decide) ?_
    refine mm_ireturn rfl rfl rfl (by decide) (by decide) ?_
    exact ⟨rfl, rfl, by rw [show min (q + t) n = n by omega], rfl⟩
  · refine mm_aload_n rfl rfl ?_
    refine mm_getI (x := nI q) rfl rfl rfl (by decide) rfl hp ?_
    refine mm_aload_n rfl rfl ?_
    refine mm_getI (x := nI t) rfl rfl rfl (by decide) rfl ht ?_
    refine mm_iaddN rfl ?_
    refine mm_goto (tgt := 37) rfl (by decide) ?_
    refine mm_putI rfl rfl rfl (by decide) rfl (Or.inl rfl) rfl rfl ?_
    refine mm_iload_n rfl rfl ?_
    refine mm_iconst (v := nI 1) rfl (by decide) ?_
    refine mm_icmp_neN (tgt := 73) rfl (by decide) (by decide) (by decide) (fun _ => ?_) (fun h => absurd h (by decide))
    refine mm_iload_n rfl rfl ?_
    refine mm_iconst (v := nI 2) rfl (by decide) ?_
    refine mm_icmp_eqN (tgt := 83) rfl (by decide) (by decide) (by decide) (fun h => absurd h (by decide)) (fun _ => ?_)
    refine mm_iload_n rfl rfl ?_
    refine mm_iconst (v := nI 3) rfl (by decide) ?_
    refine mm_icmp_neN (tgt := 88) rfl (by decide) (by decide) (by decide) (fun _ => ?_) (fun h => absurd h (by decide))
    refine mm_iload_n rfl rfl ?_
    refine mm_iconst (v := nI 4) rfl (by decide) ?_
    refine mm_icmp_neN (tgt := 105) rfl (by decide) (by decide) (by decide) (fun _ => ?_) (fun h => absurd h (by decide))
    refine mm_iload_n rfl rfl ?_
    refine mm_iconst (v := nI 5) rfl (by decide) ?_
    refine mm_icmp_neN (tgt := 122) rfl (by decide) (by decide) (by decide) (fun _ => ?_) (fun h => absurd h (by decide))
    refine mm_iload_n rfl rfl ?_
    refine mm_bipush (v := nI 6) rfl (by decide) ?_
    refine mm_icmp_eqN (tgt := 134) rfl (by decide) (by decide) (by decide) (fun h => absurd h (by decide)) (fun _ => ?_)
    refine mm_iload_n rfl rfl ?_
    refine mm_bipush (v := nI 7) rfl (by decide) ?_
    refine mm_icmp_neN (tgt := 149) rfl (by decide) (by decide) (by decide) (fun _ => ?_) (fun h => absurd h (by decide))
    refine mm_iload_n rfl rfl ?_
    refine mm_bipush (v := nI 15) rfl (by decide) ?_
    refine mm_icmp_neN (tgt := 163) rfl (by decide) (by decide) (by decide) (fun _ => ?_) (fun h => absurd h (by decide))
    refine mm_iload_n rfl rfl ?_
    refine mm_bipush (v := nI 18) rfl (by decide) ?_
    refine mm_icmp_eqN (tgt := 171) rfl (by decide) (by decide) (by decide) (fun h => absurd h (by decide)) (fun _ => ?_)
    refine mm_iconst (v := nI 0) rfl (by decide) ?_
    refine mm_ireturn rfl rfl rfl (by decide) (by decide) ?_
    exact ⟨rfl, rfl, by rw [show min (q + t) n = q + t by omega], rfl⟩
set_option maxRecDepth 100000 in
set_option maxHeartbeats 4000000 in
theorem sR_move1 {E : mm_E} {G : mm_G} {J : mm_J} (hG : mm_GI G) {n q t : Nat} (hn : J 69 3 = nI n) (hn2 : n ≤ 100) (hp : J 69 5 = nI q) (hq : q ≤ n) (ht : J 69 7 = nI t) (ht9 : t ≤ 9)  : mm_Ret E qR_move [.ref 69, .int (nI 1)] 86 J G (some (.int (nI 0))) 86 (mm_set J 69 5 (nI (q - t))) G := by
  refine mm_Met.of qR_move_ok (by decide) (mm_cats rfl) (Nat.le_of_ble_eq_true rfl) ?_
  refine mm_iload_n rfl rfl ?_
  refine mm_if_neN (tgt := 40) rfl (by decide) (by decide) (fun _ => ?_) (fun h => absurd h (by decide))
  refine mm_iload_n rfl rfl ?_
  refine mm_iconst (v := nI 1) rfl (by decide) ?_
  refine mm_icmp_neN (tgt := 73) rfl (by decide) (by decide) (by decide) (fun h => absurd h (by decide)) (fun _ => ?_)
  refine mm_aload_n rfl rfl ?_
  refine mm_aload_n rfl rfl ?_
  refine mm_getI (x := nI q) rfl rfl rfl (by decide) rfl hp ?_
  refine mm_aload_n rfl rfl ?_
  refine mm_getI (x := nI t) rfl rfl rfl (by decide) rfl ht ?_
  refine mm_icmp_leN (tgt := 69) rfl (by decide) (by omega) (by omega) (fun h54 => ?_) (fun h54 => ?_)
  · refine mm_iconst (v := nI 0) rfl (by decide) ?_
    refine mm_putI rfl rfl rfl (by decide) rfl (Or.inl rfl) rfl rfl ?_
    refine mm_iload_n rfl rfl ?_
    refine mm_iconst (v := nI 2) rfl (by decide) ?_
    refine mm_icmp_eqN (tgt := 83) rfl (by decide) (by decide) (by decide) (fun h => absurd h (by decide)) (fun _ => ?_)
    refine mm_iload_n rfl rfl ?_
    refine mm_iconst (v := nI 3) rfl (by decide) ?_
    refine mm_icmp_neN (tgt := 88) rfl (by decide) (by decide) (by decide) (fun _ => ?_) (fun h => absurd h (by decide))
    refine mm_iload_n rfl rfl ?_
    refine mm_iconst (v := nI 4) rfl (by decide) ?_
    refine mm_icmp_neN (tgt := 105) rfl (by decide) (by decide) (by decide) (fun _ => ?_) (fun h => absurd h (by decide))
    refine mm_iload_n rfl rfl ?_
    refine mm_iconst (v := nI 5) rfl (by decide) ?_
    refine mm_icmp_neN (tgt := 122) rfl (by decide) (by decide) (by decide) (fun _ => ?_) (fun h => absurd h (by decide))
    refine mm_iload_n rfl rfl ?_
    refine mm_bipush (v := nI 6) rfl (by decide) ?_
    refine mm_icmp_eqN (tgt := 134) rfl (by decide) (by decide) (by decide) (fun h => absurd h (by decide)) (fun _ => ?_)
    refine mm_iload_n rfl rfl ?_
    refine mm_bipush (v := nI 7) rfl (by decide) ?_
    refine mm_icmp_neN (tgt := 149) rfl (by decide) (by decide) (by decide) (fun _ => ?_) (fun h => absurd h (by decide))
    refine mm_iload_n rfl rfl ?_
    refine mm_bipush (v := nI 15) rfl (by decide) ?_
    refine mm_icmp_neN (tgt := 163) rfl (by decide) (by decide) (by decide) (fun _ => ?_) (fun h => absurd h (by decide))
    refine mm_iload_n rfl rfl ?_
    refine mm_bipush (v := nI 18) rfl (by decide) ?_
    refine mm_icmp_eqN (tgt := 171) rfl (by decide) (by decide) (by decide) (fun h => absurd h (by decide)) (fun _ => ?_)
    refine mm_iconst (v := nI 0) rfl (by decide) ?_
    refine mm_ireturn rfl rfl rfl (by decide) (by decide) ?_
    exact ⟨rfl, rfl, by rw [show q - t = 0 by omega], rfl⟩
  · refine mm_aload_n rfl rfl ?_
    refine mm_getI (x := nI q) rfl rfl rfl (by decide) rfl hp ?_
    refine mm_aload_n rfl rfl ?_
    refine mm_getI (x := nI t) rfl rfl rfl (by decide) rfl ht ?_
    refine mm_isubN rfl (by omega) ?_
    refine mm_goto (tgt := 70) rfl (by decide) ?_
    refine mm_putI rfl rfl rfl (by decide) rfl (Or.inl rfl) rfl rfl ?_
    refine mm_iload_n rfl rfl ?_
    refine mm_iconst (v := nI 2) rfl (by decide) ?_
    refine mm_icmp_eqN (tgt := 83) rfl (by decide) (by decide) (by decide) (fun h => absurd h (by decide)) (fun _ => ?_)
    refine mm_iload_n rfl rfl ?_
    refine mm_iconst (v := nI 3) rfl (by decide) ?_
    refine mm_icmp_neN (tgt := 88) rfl (by decide) (by decide) (by decide) (fun _ => ?_) (fun h => absurd h (by decide))
    refine mm_iload_n rfl rfl ?_
    refine mm_iconst (v := nI 4) rfl (by decide) ?_
    refine mm_icmp_neN (tgt := 105) rfl (by decide) (by decide) (by decide) (fun _ => ?_) (fun h => absurd h (by decide))
    refine mm_iload_n rfl rfl ?_
    refine mm_iconst (v := nI 5) rfl (by decide) ?_
    refine mm_icmp_neN (tgt := 122) rfl (by decide) (by decide) (by decide) (fun _ => ?_) (fun h => absurd h (by decide))
    refine mm_iload_n rfl rfl ?_
    refine mm_bipush (v := nI 6) rfl (by decide) ?_
    refine mm_icmp_eqN (tgt := 134) rfl (by decide) (by decide) (by decide) (fun h => absurd h (by decide)) (fun _ => ?_)
    refine mm_iload_n rfl rfl ?_
    refine mm_bipush (v := nI 7) rfl (by decide) ?_
    refine mm_icmp_neN (tgt := 149) rfl (by decide) (by decide) (by decide) (fun _ => ?_) (fun h => absurd h (by decide))
    refine mm_iload_n rfl rfl ?_
    refine mm_bipush (v := nI 15) rfl (by decide) ?_
    refine mm_icmp_neN (tgt := 163) rfl (by decide) (by decide) (by decide) (fun _ => ?_) (fun h => absurd h (by decide))
    refine mm_iload_n rfl rfl ?_
    refine mm_bipush (v := nI 18) rfl (by decide) ?_
    refine mm_icmp_eqN (tgt := 171) rfl (by decide) (by decide) (by decide) (fun h => absurd h (by decide)) (fun _ => ?_)
    refine mm_iconst (v := nI 0) rfl (by decide) ?_
    refine mm_ireturn rfl rfl rfl (by decide) (by decide) ?_
    exact ⟨rfl, rfl, rfl, rfl⟩
set_option maxRecDepth 100000 in
set_option maxHeartbeats 4000000 in
theorem sR_move2 {E : mm_E} {G : mm_G} {J : mm_J} (hG : mm_GI G) {n q t : Nat} (hn : J 69 3 = nI n) (hn2 : n ≤ 100) (hp : J 69 5 = nI q) (hq : q ≤ n) (ht : J 69 7 = nI t) (ht9 : t ≤ 9) {J2 : mm_J} (h : mm_Ret E qR_vertical [.ref 69, .int (nI 2)] 86 J G none 86 J2 G) : mm_Ret E qR_move [.ref 69, .int (nI 2)] 86 J G (some (.int (nI 0))) 86 J2 G := by
  refine mm_Met.of qR_move_ok (by decide) (mm_cats rfl) (Nat.le_of_ble_eq_true rfl) ?_
  refine mm_iload_n rfl rfl ?_
  refine mm_if_neN (tgt := 40) rfl (by decide) (by decide) (fun _ => ?_) (fun h => absurd h (by decide))
  refine mm_iload_n rfl rfl ?_
  refine mm_iconst (v := nI 1) rfl (by decide) ?_
  refine mm_icmp_neN (tgt := 73) rfl (by decide) (by decide) (by decide) (fun _ => ?_) (fun h => absurd h (by decide))
  refine mm_iload_n rfl rfl ?_
  refine mm_iconst (v := nI 2) rfl (by decide) ?_
  refine mm_icmp_eqN (tgt := 83) rfl (by decide) (by decide) (by decide) (fun _ => ?_) (fun h => absurd h (by decide))
  refine mm_aload_n rfl rfl ?_
  refine mm_iload_n rfl rfl ?_
  refine mm_isV1 (M2 := qR_vertical) wd_721 qR_vertical_k (by decide) h rfl (by decide) (Nat.le_of_ble_eq_true rfl) (by decide) (by decide) rfl (by decide) ?_
  refine mm_iload_n rfl rfl ?_
  refine mm_iconst (v := nI 4) rfl (by decide) ?_
  refine mm_icmp_neN (tgt := 105) rfl (by decide) (by decide) (by decide) (fun _ => ?_) (fun h => absurd h (by decide))
  refine mm_iload_n rfl rfl ?_
  refine mm_iconst (v := nI 5) rfl (by decide) ?_
  refine mm_icmp_neN (tgt := 122) rfl (by decide) (by decide) (by decide) (fun _ => ?_) (fun h => absurd h (by decide))
  refine mm_iload_n rfl rfl ?_
  refine mm_bipush (v := nI 6) rfl (by decide) ?_
  refine mm_icmp_eqN (tgt := 134) rfl (by decide) (by decide) (by decide) (fun h => absurd h (by decide)) (fun _ => ?_)
  refine mm_iload_n rfl rfl ?_
  refine mm_bipush (v := nI 7) rfl (by decide) ?_
  refine mm_icmp_neN (tgt := 149) rfl (by decide) (by decide) (by decide) (fun _ => ?_) (fun h => absurd h (by decide))
  refine mm_iload_n rfl rfl ?_
  refine mm_bipush (v := nI 15) rfl (by decide) ?_
  refine mm_icmp_neN (tgt := 163) rfl (by decide) (by decide) (by decide) (fun _ => ?_) (fun h => absurd h (by decide))
  refine mm_iload_n rfl rfl ?_
  refine mm_bipush (v := nI 18) rfl (by decide) ?_
  refine mm_icmp_eqN (tgt := 171) rfl (by decide) (by decide) (by decide) (fun h => absurd h (by decide)) (fun _ => ?_)
  refine mm_iconst (v := nI 0) rfl (by decide) ?_
  refine mm_ireturn rfl rfl rfl (by decide) (by decide) ?_
  exact ⟨rfl, rfl, rfl, rfl⟩
set_option maxRecDepth 100000 in
set_option maxHeartbeats 4000000 in
theorem sR_move3 {E : mm_E} {G : mm_G} {J : mm_J} (hG : mm_GI G) {n q t : Nat} (hn : J 69 3 = nI n) (hn2 : n ≤ 100) (hp : J 69 5 = nI q) (hq : q ≤ n) (ht : J 69 7 = nI t) (ht9 : t ≤ 9) {J2 : mm_J} (h : mm_Ret E qR_vertical [.ref 69, .int (nI 3)] 86 J G none 86 J2 G) : mm_Ret E qR_move [.ref 69, .int (nI 3)] 86 J G (some (.int (nI 0))) 86 J2 G := by
  refine mm_Met.of qR_move_ok (by decide) (mm_cats rfl) (Nat.le_of_ble_eq_true rfl) ?_
  refine mm_iload_n rfl rfl ?_
  refine mm_if_neN (tgt := 40) rfl (by decide) (by decide) (fun _ => ?_) (fun h => absurd h (by decide))
  refine mm_iload_n rfl rfl ?_
  refine mm_iconst (v := nI 1) rfl (by decide) ?_
  refine mm_icmp_neN (tgt := 73) rfl (by decide) (by decide) (by decide) (fun _ => ?_) (fun h => absurd h (by decide))
  refine mm_iload_n rfl rfl ?_
  refine mm_iconst (v := nI 2) rfl (by decide) ?_
  refine mm_icmp_eqN (tgt := 83) rfl (by decide) (by decide) (by decide) (fun h => absurd h (by decide)) (fun _ => ?_)
  refine mm_iload_n rfl rfl ?_
  refine mm_iconst (v := nI 3) rfl (by decide) ?_
  refine mm_icmp_neN (tgt := 88) rfl (by decide) (by decide) (by decide) (fun h => absurd h (by decide)) (fun _ => ?_)
  refine mm_aload_n rfl rfl ?_
  refine mm_iload_n rfl rfl ?_
  refine mm_isV1 (M2 := qR_vertical) wd_721 qR_vertical_k (by decide) h rfl (by decide) (Nat.le_of_ble_eq_true rfl) (by decide) (by decide) rfl (by decide) ?_
  refine mm_iload_n rfl rfl ?_
  refine mm_iconst (v := nI 4) rfl (by decide) ?_
  refine mm_icmp_neN (tgt := 105) rfl (by decide) (by decide) (by decide) (fun _ => ?_) (fun h => absurd h (by decide))
  refine mm_iload_n rfl rfl ?_
  refine mm_iconst (v := nI 5) rfl (by decide) ?_
  refine mm_icmp_neN (tgt := 122) rfl (by decide) (by decide) (by decide) (fun _ => ?_) (fun h => absurd h (by decide))
  refine mm_iload_n rfl rfl ?_
  refine mm_bipush (v := nI 6) rfl (by decide) ?_
  refine mm_icmp_eqN (tgt := 134) rfl (by decide) (by decide) (by decide) (fun h => absurd h (by decide)) (fun _ => ?_)
  refine mm_iload_n rfl rfl ?_
  refine mm_bipush (v := nI 7) rfl (by decide) ?_
  refine mm_icmp_neN (tgt := 149) rfl (by decide) (by decide) (by decide) (fun _ => ?_) (fun h => absurd h (by decide))
  refine mm_iload_n rfl rfl ?_
  refine mm_bipush (v := nI 15) rfl (by decide) ?_
  refine mm_icmp_neN (tgt := 163) rfl (by decide) (by decide) (by decide) (fun _ => ?_) (fun h => absurd h (by decide))
  refine mm_iload_n rfl rfl ?_
  refine mm_bipush (v := nI 18) rfl (by decide) ?_
  refine mm_icmp_eqN (tgt := 171) rfl (by decide) (by decide) (by decide) (fun h => absurd h (by decide)) (fun _ => ?_)
  refine mm_iconst (v := nI 0) rfl (by decide) ?_
  refine mm_ireturn rfl rfl rfl (by decide) (by decide) ?_
  exact ⟨rfl, rfl, rfl, rfl⟩
set_option maxRecDepth 100000 in
set_option maxHeartbeats 4000000 in
theorem sR_move4 {E : mm_E} {G : mm_G} {J : mm_J} (hG : mm_GI G) {n q t : Nat} (hn : J 69 3 = nI n) (hn2 : n ≤ 100) (hp : J 69 5 = nI q) (hq : q ≤ n) (ht : J 69 7 = nI t) (ht9 : t ≤ 9)  : mm_Ret E qR_move [.ref 69, .int (nI 4)] 86 J G (some (.int (nI 0))) 86 (mm_set J 69 5 (nI (ed_lb (J 70) q))) G := by
  refine mm_Met.of qR_move_ok (by decide) (mm_cats rfl) (Nat.le_of_ble_eq_true rfl) ?_
  refine mm_iload_n rfl rfl ?_
  refine mm_if_neN (tgt := 40) rfl (by decide) (by decide) (fun _ => ?_) (fun h => absurd h (by decide))
  refine mm_iload_n rfl rfl ?_
  refine mm_iconst (v := nI 1) rfl (by decide) ?_
  refine mm_icmp_neN (tgt := 73) rfl (by decide) (by decide) (by decide) (fun _ => ?_) (fun h => absurd h (by decide))
  refine mm_iload_n rfl rfl ?_
  refine mm_iconst (v := nI 2) rfl (by decide) ?_
  refine mm_icmp_eqN (tgt := 83) rfl (by decide) (by decide) (by decide) (fun h => absurd h (by decide)) (fun _ => ?_)
  refine mm_iload_n rfl rfl ?_
  refine mm_iconst (v := nI 3) rfl (by decide) ?_
  refine mm_icmp_neN (tgt := 88) rfl (by decide) (by decide) (by decide) (fun _ => ?_) (fun h => absurd h (by decide))
  refine mm_iload_n rfl rfl ?_
  refine mm_iconst (v := nI 4) rfl (by decide) ?_
  refine mm_icmp_neN (tgt := 105) rfl (by decide) (by decide) (by decide) (fun h => absurd h (by decide)) (fun _ => ?_)
  refine mm_aload_n rfl rfl ?_
  refine mm_aload_n rfl rfl ?_
  refine mm_aload_n rfl rfl ?_
  refine mm_getI (x := nI q) rfl rfl rfl (by decide) rfl hp ?_
  refine mm_isV1 (M2 := qR_lineStart) wd_725 qR_lineStart_k (by decide) (sR_lineStart hG (by omega)) rfl (by decide) (Nat.le_of_ble_eq_true rfl) (by decide) (by decide) rfl (by decide) ?_
  refine mm_putI rfl rfl rfl (by decide) rfl (Or.inl rfl) rfl rfl ?_
  refine mm_iload_n rfl rfl ?_
  refine mm_iconst (v := nI 5) rfl (by decide) ?_
  refine mm_icmp_neN (tgt := 122) rfl (by decide) (by decide) (by decide) (fun _ => ?_) (fun h => absurd h (by decide))
  refine mm_iload_n rfl rfl ?_
  refine mm_bipush (v := nI 6) rfl (by decide) ?_
  refine mm_icmp_eqN (tgt := 134) rfl (by decide) (by decide) (by decide) (fun h => absurd h (by decide)) (fun _ => ?_)
  refine mm_iload_n rfl rfl ?_
  refine mm_bipush (v := nI 7) rfl (by decide) ?_
  refine mm_icmp_neN (tgt := 149) rfl (by decide) (by decide) (by decide) (fun _ => ?_) (fun h => absurd h (by decide))
  refine mm_iload_n rfl rfl ?_
  refine mm_bipush (v := nI 15) rfl (by decide) ?_
  refine mm_icmp_neN (tgt := 163) rfl (by decide) (by decide) (by decide) (fun _ => ?_) (fun h => absurd h (by decide))
  refine mm_iload_n rfl rfl ?_
  refine mm_bipush (v := nI 18) rfl (by decide) ?_
  refine mm_icmp_eqN (tgt := 171) rfl (by decide) (by decide) (by decide) (fun h => absurd h (by decide)) (fun _ => ?_)
  refine mm_iconst (v := nI 0) rfl (by decide) ?_
  refine mm_ireturn rfl rfl rfl (by decide) (by decide) ?_
  exact ⟨rfl, rfl, rfl, rfl⟩
set_option maxRecDepth 100000 in
set_option maxHeartbeats 4000000 in
theorem sR_move5 {E : mm_E} {G : mm_G} {J : mm_J} (hG : mm_GI G) {n q t : Nat} (hn : J 69 3 = nI n) (hn2 : n ≤ 100) (hp : J 69 5 = nI q) (hq : q ≤ n) (ht : J 69 7 = nI t) (ht9 : t ≤ 9)  : mm_Ret E qR_move [.ref 69, .int (nI 5)] 86 J G (some (.int (nI 0))) 86 (mm_set J 69 5 (nI (ed_le (J 70) n q))) G := by
  refine mm_Met.of qR_move_ok (by decide) (mm_cats rfl) (Nat.le_of_ble_eq_true rfl) ?_
  refine mm_iload_n rfl rfl ?_
  refine mm_if_neN (tgt := 40) rfl (by decide) (by decide) (fun _ => ?_) (fun h => absurd h (by decide))
  refine mm_iload_n rfl rfl ?_
  refine mm_iconst (v := nI 1) rfl (by decide) ?_
  refine mm_icmp_neN (tgt := 73) rfl (by decide) (by decide) (by decide) (fun _ => ?_) (fun h => absurd h (by decide))
  refine mm_iload_n rfl rfl ?_
  refine mm_iconst (v := nI 2) rfl (by decide) ?_
  refine mm_icmp_eqN (tgt := 83) rfl (by decide) (by decide) (by decide) (fun h => absurd h (by decide)) (fun _ => ?_)
  refine mm_iload_n rfl rfl ?_
  refine mm_iconst (v := nI 3) rfl (by decide) ?_
  refine mm_icmp_neN (tgt := 88) rfl (by decide) (by decide) (by decide) (fun _ => ?_) (fun h => absurd h (by decide))
  refine mm_iload_n rfl rfl ?_
  refine mm_iconst (v := nI 4) rfl (by decide) ?_
  refine mm_icmp_neN (tgt := 105) rfl (by decide) (by decide) (by decide) (fun _ => ?_) (fun h => absurd h (by decide))
  refine mm_iload_n rfl rfl ?_
  refine mm_iconst (v := nI 5) rfl (by decide) ?_
  refine mm_icmp_neN (tgt := 122) rfl (by decide) (by decide) (by decide) (fun h => absurd h (by decide)) (fun _ => ?_)
  refine mm_aload_n rfl rfl ?_
  refine mm_aload_n rfl rfl ?_
  refine mm_aload_n rfl rfl ?_
  refine mm_getI (x := nI q) rfl rfl rfl (by decide) rfl hp ?_
  refine mm_isV1 (M2 := qR_lineEnd) wd_685 qR_lineEnd_k (by decide) (sR_lineEnd hG hn hn2 hq) rfl (by decide) (Nat.le_of_ble_eq_true rfl) (by decide) (by decide) rfl (by decide) ?_
  refine mm_putI rfl rfl rfl (by decide) rfl (Or.inl rfl) rfl rfl ?_
  refine mm_iload_n rfl rfl ?_
  refine mm_bipush (v := nI 6) rfl (by decide) ?_
  refine mm_icmp_eqN (tgt := 134) rfl (by decide) (by decide) (by decide) (fun h => absurd h (by decide)) (fun _ => ?_)
  refine mm_iload_n rfl rfl ?_
  refine mm_bipush (v := nI 7) rfl (by decide) ?_
  refine mm_icmp_neN (tgt := 149) rfl (by decide) (by decide) (by decide) (fun _ => ?_) (fun h => absurd h (by decide))
  refine mm_iload_n rfl rfl ?_
  refine mm_bipush (v := nI 15) rfl (by decide) ?_
  refine mm_icmp_neN (tgt := 163) rfl (by decide) (by decide) (by decide) (fun _ => ?_) (fun h => absurd h (by decide))
  refine mm_iload_n rfl rfl ?_
  refine mm_bipush (v := nI 18) rfl (by decide) ?_
  refine mm_icmp_eqN (tgt := 171) rfl (by decide) (by decide) (by decide) (fun h => absurd h (by decide)) (fun _ => ?_)
  refine mm_iconst (v := nI 0) rfl (by decide) ?_
  refine mm_ireturn rfl rfl rfl (by decide) (by decide) ?_
  exact ⟨rfl, rfl, rfl, rfl⟩
set_option maxRecDepth 100000 in
set_option maxHeartbeats 4000000 in
theorem sR_move6 {E : mm_E} {G : mm_G} {J : mm_J} (hG : mm_GI G) {n q t : Nat} (hn : J 69 3 = nI n) (hn2 : n ≤ 100) (hp : J 69 5 = nI q) (hq : q ≤ n) (ht : J 69 7 = nI t) (ht9 : t ≤ 9)  : mm_Ret E qR_move [.ref 69, .int (nI 6)] 86 J G (some (.int (nI 0))) 86 (mm_set J 69 5 (nI (ed_fw (J 70) n t q))) G := by
  refine mm_Met.of qR_move_ok (by decide) (mm_cats rfl) (Nat.le_of_ble_eq_true rfl) ?_
  refine mm_iload_n rfl rfl ?_
  refine mm_if_neN (tgt := 40) rfl (by decide) (by decide) (fun _ => ?_) (fun h => absurd h (by decide))
  refine mm_iload_n rfl rfl ?_
  refine mm_iconst (v := nI 1) rfl (by decide) ?_
  refine mm_icmp_neN (tgt := 73) rfl (by decide) (by decide) (by decide) (fun _ => ?_) (fun h => absurd h (by decide))
  refine mm_iload_n rfl rfl ?_
  refine mm_iconst (v := nI 2) rfl (by decide) ?_
  refine mm_icmp_eqN (tgt := 83) rfl (by decide) (by decide) (by decide) (fun h => absurd h (by decide)) (fun _ => ?_)
  refine mm_iload_n rfl rfl ?_
  refine mm_iconst (v := nI 3) rfl (by decide) ?_
  refine mm_icmp_neN (tgt := 88) rfl (by decide) (by decide) (by decide) (fun _ => ?_) (fun h => absurd h (by decide))
  refine mm_iload_n rfl rfl ?_
  refine mm_iconst (v := nI 4) rfl (by decide) ?_
  refine mm_icmp_neN (tgt := 105) rfl (by decide) (by decide) (by decide) (fun _ => ?_) (fun h => absurd h (by decide))
  refine mm_iload_n rfl rfl ?_
  refine mm_iconst (v := nI 5) rfl (by decide) ?_
  refine mm_icmp_neN (tgt := 122) rfl (by decide) (by decide) (by decide) (fun _ => ?_) (fun h => absurd h (by decide))
  refine mm_iload_n rfl rfl ?_
  refine mm_bipush (v := nI 6) rfl (by decide) ?_
  refine mm_icmp_eqN (tgt := 134) rfl (by decide) (by decide) (by decide) (fun _ => ?_) (fun h => absurd h (by decide))
  refine mm_aload_n rfl rfl ?_
  refine mm_iload_n rfl rfl ?_
  refine mm_bipush (v := nI 7) rfl (by decide) ?_
  refine mm_icmp_neN (tgt := 145) rfl (by decide) (by decide) (by decide) (fun _ => ?_) (fun h => absurd h (by decide))
  refine mm_iconst (v := nI 0) rfl (by decide) ?_
  refine mm_isV1 (M2 := qR_words) wd_729 qR_words_k (by decide) (sR_words0 hG hn hn2 ht ht9 hp hq) rfl (by decide) (Nat.le_of_ble_eq_true rfl) (by decide) (by decide) rfl (by decide) ?_
  refine mm_iload_n rfl rfl ?_
  refine mm_bipush (v := nI 15) rfl (by decide) ?_
  refine mm_icmp_neN (tgt := 163) rfl (by decide) (by decide) (by decide) (fun _ => ?_) (fun h => absurd h (by decide))
  refine mm_iload_n rfl rfl ?_
  refine mm_bipush (v := nI 18) rfl (by decide) ?_
  refine mm_icmp_eqN (tgt := 171) rfl (by decide) (by decide) (by decide) (fun h => absurd h (by decide)) (fun _ => ?_)
  refine mm_iconst (v := nI 0) rfl (by decide) ?_
  refine mm_ireturn rfl rfl rfl (by decide) (by decide) ?_
  exact ⟨rfl, rfl, rfl, rfl⟩
set_option maxRecDepth 100000 in
set_option maxHeartbeats 4000000 in
theorem sR_move7 {E : mm_E} {G : mm_G} {J : mm_J} (hG : mm_GI G) {n q t : Nat} (hn : J 69 3 = nI n) (hn2 : n ≤ 100) (hp : J 69 5 = nI q) (hq : q ≤ n) (ht : J 69 7 = nI t) (ht9 : t ≤ 9)  : mm_Ret E qR_move [.ref 69, .int (nI 7)] 86 J G (some (.int (nI 0))) 86 (mm_set J 69 5 (nI (ed_bw (J 70) t q))) G := by
  refine mm_Met.of qR_move_ok (by decide) (mm_cats rfl) (Nat.le_of_ble_eq_true rfl) ?_
  refine mm_iload_n rfl rfl ?_
  refine mm_if_neN (tgt := 40) rfl (by decide) (by decide) (fun _ => ?_) (fun h => absurd h (by decide))
  refine mm_iload_n rfl rfl ?_
  refine mm_iconst (v := nI 1) rfl (by decide) ?_
  refine mm_icmp_neN (tgt := 73) rfl (by decide) (by decide) (by decide) (fun _ => ?_) (fun h => absurd h (by decide))
  refine mm_iload_n rfl rfl ?_
  refine mm_iconst (v := nI 2) rfl (by decide) ?_
  refine mm_icmp_eqN (tgt := 83) rfl (by decide) (by decide) (by decide) (fun h => absurd h (by decide)) (fun _ => ?_)
  refine mm_iload_n rfl rfl ?_
  refine mm_iconst (v := nI 3) rfl (by decide) ?_
  refine mm_icmp_neN (tgt := 88) rfl (by decide) (by decide) (by decide) (fun _ => ?_) (fun h => absurd h (by decide))
  refine mm_iload_n rfl rfl ?_
  refine mm_iconst (v := nI 4) rfl (by decide) ?_
  refine mm_icmp_neN (tgt := 105) rfl (by decide) (by decide) (by decide) (fun _ => ?_) (fun h => absurd h (by decide))
  refine mm_iload_n rfl rfl ?_
  refine mm_iconst (v := nI 5) rfl (by decide) ?_
  refine mm_icmp_neN (tgt := 122) rfl (by decide) (by decide) (by decide) (fun _ => ?_) (fun h => absurd h (by decide))
  refine mm_iload_n rfl rfl ?_
  refine mm_bipush (v := nI 6) rfl (by decide) ?_
  refine mm_icmp_eqN (tgt := 134) rfl (by decide) (by decide) (by decide) (fun h => absurd h (by decide)) (fun _ => ?_)
  refine mm_iload_n rfl rfl ?_
  refine mm_bipush (v := nI 7) rfl (by decide) ?_
  refine mm_icmp_neN (tgt := 149) rfl (by decide) (by decide) (by decide) (fun h => absurd h (by decide)) (fun _ => ?_)
  refine mm_aload_n rfl rfl ?_
  refine mm_iload_n rfl rfl ?_
  refine mm_bipush (v := nI 7) rfl (by decide) ?_
  refine mm_icmp_neN (tgt := 145) rfl (by decide) (by decide) (by decide) (fun h => absurd h (by decide)) (fun _ => ?_)
  refine mm_iconst (v := nI 1) rfl (by decide) ?_
  refine mm_goto (tgt := 146) rfl (by decide) ?_
  refine mm_isV1 (M2 := qR_words) wd_729 qR_words_k (by decide) (sR_words1 hG hn hn2 ht ht9 hp hq) rfl (by decide) (Nat.le_of_ble_eq_true rfl) (by decide) (by decide) rfl (by decide) ?_
  refine mm_iload_n rfl rfl ?_
  refine mm_bipush (v := nI 15) rfl (by decide) ?_
  refine mm_icmp_neN (tgt := 163) rfl (by decide) (by decide) (by decide) (fun _ => ?_) (fun h => absurd h (by decide))
  refine mm_iload_n rfl rfl ?_
  refine mm_bipush (v := nI 18) rfl (by decide) ?_
  refine mm_icmp_eqN (tgt := 171) rfl (by decide) (by decide) (by decide) (fun h => absurd h (by decide)) (fun _ => ?_)
  refine mm_iconst (v := nI 0) rfl (by decide) ?_
  refine mm_ireturn rfl rfl rfl (by decide) (by decide) ?_
  exact ⟨rfl, rfl, rfl, rfl⟩
set_option maxRecDepth 100000 in
set_option maxHeartbeats 4000000 in
theorem sR_move15 {E : mm_E} {G : mm_G} {J : mm_J} (hG : mm_GI G) {n q t : Nat} (hn : J 69 3 = nI n) (hn2 : n ≤ 100) (hp : J 69 5 = nI q) (hq : q ≤ n) (ht : J 69 7 = nI t) (ht9 : t ≤ 9)  : mm_Ret E qR_move [.ref 69, .int (nI 15)] 86 J G (some (.int (nI 0))) 86 (mm_set J 69 6 (nI q)) G := by
  refine mm_Met.of qR_move_ok (by decide) (mm_cats rfl) (Nat.le_of_ble_eq_true rfl) ?_
  refine mm_iload_n rfl rfl ?_
  refine mm_if_neN (tgt := 40) rfl (by decide) (by decide) (fun _ => ?_) (fun h => absurd h (by decide))
  refine mm_iload_n rfl rfl ?_
  refine mm_iconst (v := nI 1) rfl (by decide) ?_
  refine mm_icmp_neN (tgt := 73) rfl (by decide) (by decide) (by decide) (fun _ => ?_) (fun h => absurd h (by decide))
  refine mm_iload_n rfl rfl ?_
  refine mm_iconst (v := nI 2) rfl (by decide) ?_
  refine mm_icmp_eqN (tgt := 83) rfl (by decide) (by decide) (by decide) (fun h => absurd h (by decide)) (fun _ => ?_)
  refine mm_iload_n rfl rfl ?_
  refine mm_iconst (v := nI 3) rfl (by decide) ?_
  refine mm_icmp_neN (tgt := 88) rfl (by decide) (by decide) (by decide) (fun _ => ?_) (fun h => absurd h (by decide))
  refine mm_iload_n rfl rfl ?_
  refine mm_iconst (v := nI 4) rfl (by decide) ?_
  refine mm_icmp_neN (tgt := 105) rfl (by decide) (by decide) (by decide) (fun _ => ?_) (fun h => absurd h (by decide))
  refine mm_iload_n rfl rfl ?_
  refine mm_iconst (v := nI 5) rfl (by decide) ?_
  refine mm_icmp_neN (tgt := 122) rfl (by decide) (by decide) (by decide) (fun _ => ?_) (fun h => absurd h (by decide))
  refine mm_iload_n rfl rfl ?_
  refine mm_bipush (v := nI 6) rfl (by decide) ?_
  refine mm_icmp_eqN (tgt := 134) rfl (by decide) (by decide) (by decide) (fun h => absurd h (by decide)) (fun _ => ?_)
  refine mm_iload_n rfl rfl ?_
  refine mm_bipush (v := nI 7) rfl (by decide) ?_
  refine mm_icmp_neN (tgt := 149) rfl (by decide) (by decide) (by decide) (fun _ => ?_) (fun h => absurd h (by decide))
  refine mm_iload_n rfl rfl ?_
  refine mm_bipush (v := nI 15) rfl (by decide) ?_
  refine mm_icmp_neN (tgt := 163) rfl (by decide) (by decide) (by decide) (fun h => absurd h (by decide)) (fun _ => ?_)
  refine mm_aload_n rfl rfl ?_
  refine mm_aload_n rfl rfl ?_
  refine mm_getI (x := nI q) rfl rfl rfl (by decide) rfl hp ?_
  refine mm_putI rfl rfl rfl (by decide) rfl (Or.inl rfl) rfl rfl ?_
  refine mm_iload_n rfl rfl ?_
  refine mm_bipush (v := nI 18) rfl (by decide) ?_
  refine mm_icmp_eqN (tgt := 171) rfl (by decide) (by decide) (by decide) (fun h => absurd h (by decide)) (fun _ => ?_)
  refine mm_iconst (v := nI 0) rfl (by decide) ?_
  refine mm_ireturn rfl rfl rfl (by decide) (by decide) ?_
  exact ⟨rfl, rfl, rfl, rfl⟩
set_option maxRecDepth 100000 in
set_option maxHeartbeats 4000000 in
theorem sR_move18 {E : mm_E} {G : mm_G} {J : mm_J} (hG : mm_GI G) {n q t : Nat} (hn : J 69 3 = nI n) (hn2 : n ≤ 100) (hp : J 69 5 = nI q) (hq : q ≤ n) (ht : J 69 7 = nI t) (ht9 : t ≤ 9)  : mm_Ret E qR_move [.ref 69, .int (nI 18)] 86 J G (some (.int (nI 0))) 86 (mm_set (mm_set J 69 5 (nI 0)) 69 6 (nI n)) G := by
  refine mm_Met.of qR_move_ok (by decide) (mm_cats rfl) (Nat.le_of_ble_eq_true rfl) ?_
  refine mm_iload_n rfl rfl ?_
  refine mm_if_neN (tgt := 40) rfl (by decide) (by decide) (fun _ => ?_) (fun h => absurd h (by decide))
  refine mm_iload_n rfl rfl ?_
  refine mm_iconst (v := nI 1) rfl (by decide) ?_
  refine mm_icmp_neN (tgt := 73) rfl (by decide) (by decide) (by decide) (fun _ => ?_) (fun h => absurd h (by decide))
  refine mm_iload_n rfl rfl ?_
  refine mm_iconst (v := nI 2) rfl (by decide) ?_
  refine mm_icmp_eqN (tgt := 83) rfl (by decide) (by decide) (by decide) (fun h => absurd h (by decide)) (fun _ => ?_)
  refine mm_iload_n rfl rfl ?_
  refine mm_iconst (v := nI 3) rfl (by decide) ?_
  refine mm_icmp_neN (tgt := 88) rfl (by decide) (by decide) (by decide) (fun _ => ?_) (fun h => absurd h (by decide))
  refine mm_iload_n rfl rfl ?_
  refine mm_iconst (v := nI 4) rfl (by decide) ?_
  refine mm_icmp_neN (tgt := 105) rfl (by decide) (by decide) (by decide) (fun _ => ?_) (fun h => absurd h (by decide))
  refine mm_iload_n rfl rfl ?_
  refine mm_iconst (v := nI 5) rfl (by decide) ?_
  refine mm_icmp_neN (tgt := 122) rfl (by decide) (by decide) (by decide) (fun _ => ?_) (fun h => absurd h (by decide))
  refine mm_iload_n rfl rfl ?_
  refine mm_bipush (v := nI 6) rfl (by decide) ?_
  refine mm_icmp_eqN (tgt := 134) rfl (by decide) (by decide) (by decide) (fun h => absurd h (by decide)) (fun _ => ?_)
  refine mm_iload_n rfl rfl ?_
  refine mm_bipush (v := nI 7) rfl (by decide) ?_
  refine mm_icmp_neN (tgt := 149) rfl (by decide) (by decide) (by decide) (fun _ => ?_) (fun h => absurd h (by decide))
  refine mm_iload_n rfl rfl ?_
  refine mm_bipush (v := nI 15) rfl (by decide) ?_
  refine mm_icmp_neN (tgt := 163) rfl (by decide) (by decide) (by decide) (fun _ => ?_) (fun h => absurd h (by decide))
  refine mm_iload_n rfl rfl ?_
  refine mm_bipush (v := nI 18) rfl (by decide) ?_
  refine mm_icmp_eqN (tgt := 171) rfl (by decide) (by decide) (by decide) (fun _ => ?_) (fun h => absurd h (by decide))
  refine mm_aload_n rfl rfl ?_
  refine mm_iconst (v := nI 0) rfl (by decide) ?_
  refine mm_putI rfl rfl rfl (by decide) rfl (Or.inl rfl) rfl rfl ?_
  refine mm_aload_n rfl rfl ?_
  refine mm_aload_n rfl rfl ?_
  refine mm_getI (x := nI n) rfl rfl rfl (by decide) rfl (by simp [mm_set, hn]) ?_
  refine mm_putI rfl rfl rfl (by decide) rfl (Or.inl rfl) rfl rfl ?_
  refine mm_iconst (v := nI 0) rfl (by decide) ?_
  refine mm_ireturn rfl rfl rfl (by decide) (by decide) ?_
  exact ⟨rfl, rfl, rfl, rfl⟩
set_option maxRecDepth 100000 in
set_option maxHeartbeats 4000000 in
theorem sR_wk0 {E : mm_E} {G : mm_G} {J : mm_J}  {r : Int32} {J2 : mm_J} (h : mm_Ret E qR_move [.ref 69, .int (nI 0)] 86 J G (some (.int r)) 86 J2 G) : mm_Ret E qR_work [.ref 69, .int (nI 0)] 86 J G (some (.int r)) 86 J2 G := by
  refine mm_Met.of qR_work_ok (by decide) (mm_cats rfl) (Nat.le_of_ble_eq_true rfl) ?_
  refine mm_iload_n rfl rfl ?_
  refine mm_tableOut (tgt := 257) rfl (by decide) (by decide) ?_
  refine mm_aload_n rfl rfl ?_
  refine mm_iload_n rfl rfl ?_
  refine mm_isV1 (M2 := qR_move) wd_717 qR_move_k (by decide) h rfl (by decide) (Nat.le_of_ble_eq_true rfl) (by decide) (by decide) rfl (by decide) ?_
  refine mm_ireturn rfl rfl rfl (by decide) (by decide) ?_
  exact ⟨rfl, rfl, rfl, rfl⟩
set_option maxRecDepth 100000 in
set_option maxHeartbeats 4000000 in
theorem sR_wk1 {E : mm_E} {G : mm_G} {J : mm_J}  {r : Int32} {J2 : mm_J} (h : mm_Ret E qR_move [.ref 69, .int (nI 1)] 86 J G (some (.int r)) 86 J2 G) : mm_Ret E qR_work [.ref 69, .int (nI 1)] 86 J G (some (.int r)) 86 J2 G := by
  refine mm_Met.of qR_work_ok (by decide) (mm_cats rfl) (Nat.le_of_ble_eq_true rfl) ?_
  refine mm_iload_n rfl rfl ?_
  refine mm_tableOut (tgt := 257) rfl (by decide) (by decide) ?_
  refine mm_aload_n rfl rfl ?_
  refine mm_iload_n rfl rfl ?_
  refine mm_isV1 (M2 := qR_move) wd_717 qR_move_k (by decide) h rfl (by decide) (Nat.le_of_ble_eq_true rfl) (by decide) (by decide) rfl (by decide) ?_
  refine mm_ireturn rfl rfl rfl (by decide) (by decide) ?_
  exact ⟨rfl, rfl, rfl, rfl⟩
set_option maxRecDepth 100000 in
set_option maxHeartbeats 4000000 in
theorem sR_wk2 {E : mm_E} {G : mm_G} {J : mm_J}  {r : Int32} {J2 : mm_J} (h : mm_Ret E qR_move [.ref 69, .int (nI 2)] 86 J G (some (.int r)) 86 J2 G) : mm_Ret E qR_work [.ref 69, .int (nI 2)] 86 J G (some (.int r)) 86 J2 G := by
  refine mm_Met.of qR_work_ok (by decide) (mm_cats rfl) (Nat.le_of_ble_eq_true rfl) ?_
  refine mm_iload_n rfl rfl ?_
  refine mm_tableOut (tgt := 257) rfl (by decide) (by decide) ?_
  refine mm_aload_n rfl rfl ?_
  refine mm_iload_n rfl rfl ?_
  refine mm_isV1 (M2 := qR_move) wd_717 qR_move_k (by decide) h rfl (by decide) (Nat.le_of_ble_eq_true rfl) (by decide) (by decide) rfl (by decide) ?_
  refine mm_ireturn rfl rfl rfl (by decide) (by decide) ?_
  exact ⟨rfl, rfl, rfl, rfl⟩
set_option maxRecDepth 100000 in
set_option maxHeartbeats 4000000 in
theorem sR_wk3 {E : mm_E} {G : mm_G} {J : mm_J}  {r : Int32} {J2 : mm_J} (h : mm_Ret E qR_move [.ref 69, .int (nI 3)] 86 J G (some (.int r)) 86 J2 G) : mm_Ret E qR_work [.ref 69, .int (nI 3)] 86 J G (some (.int r)) 86 J2 G := by
  refine mm_Met.of qR_work_ok (by decide) (mm_cats rfl) (Nat.le_of_ble_eq_true rfl) ?_
  refine mm_iload_n rfl rfl ?_
  refine mm_tableOut (tgt := 257) rfl (by decide) (by decide) ?_
  refine mm_aload_n rfl rfl ?_
  refine mm_iload_n rfl rfl ?_
  refine mm_isV1 (M2 := qR_move) wd_717 qR_move_k (by decide) h rfl (by decide) (Nat.le_of_ble_eq_true rfl) (by decide) (by decide) rfl (by decide) ?_
  refine mm_ireturn rfl rfl rfl (by decide) (by decide) ?_
  exact ⟨rfl, rfl, rfl, rfl⟩
set_option maxRecDepth 100000 in
set_option maxHeartbeats 4000000 in
theorem sR_wk4 {E : mm_E} {G : mm_G} {J : mm_J}  {r : Int32} {J2 : mm_J} (h : mm_Ret E qR_move [.ref 69, .int (nI 4)] 86 J G (some (.int r)) 86 J2 G) : mm_Ret E qR_work [.ref 69, .int (nI 4)] 86 J G (some (.int r)) 86 J2 G := by
  refine mm_Met.of qR_work_ok (by decide) (mm_cats rfl) (Nat.le_of_ble_eq_true rfl) ?_
  refine mm_iload_n rfl rfl ?_
  refine mm_tableOut (tgt := 257) rfl (by decide) (by decide) ?_
  refine mm_aload_n rfl rfl ?_
  refine mm_iload_n rfl rfl ?_
  refine mm_isV1 (M2 := qR_move) wd_717 qR_move_k (by decide) h rfl (by decide) (Nat.le_of_ble_eq_true rfl) (by decide) (by decide) rfl (by decide) ?_
  refine mm_ireturn rfl rfl rfl (by decide) (by decide) ?_
  exact ⟨rfl, rfl, rfl, rfl⟩
set_option maxRecDepth 100000 in
set_option maxHeartbeats 4000000 in
theorem sR_wk5 {E : mm_E} {G : mm_G} {J : mm_J}  {r : Int32} {J2 : mm_J} (h : mm_Ret E qR_move [.ref 69, .int (nI 5)] 86 J G (some (.int r)) 86 J2 G) : mm_Ret E qR_work [.ref 69, .int (nI 5)] 86 J G (some (.int r)) 86 J2 G := by
  refine mm_Met.of qR_work_ok (by decide) (mm_cats rfl) (Nat.le_of_ble_eq_true rfl) ?_
  refine mm_iload_n rfl rfl ?_
  refine mm_tableOut (tgt := 257) rfl (by decide) (by decide) ?_
  refine mm_aload_n rfl rfl ?_
  refine mm_iload_n rfl rfl ?_
  refine mm_isV1 (M2 := qR_move) wd_717 qR_move_k (by decide) h rfl (by decide) (Nat.le_of_ble_eq_true rfl) (by decide) (by decide) rfl (by decide) ?_
  refine mm_ireturn rfl rfl rfl (by decide) (by decide) ?_
  exact ⟨rfl, rfl, rfl, rfl⟩
set_option maxRecDepth 100000 in
set_option maxHeartbeats 4000000 in
theorem sR_wk6 {E : mm_E} {G : mm_G} {J : mm_J}  {r : Int32} {J2 : mm_J} (h : mm_Ret E qR_move [.ref 69, .int (nI 6)] 86 J G (some (.int r)) 86 J2 G) : mm_Ret E qR_work [.ref 69, .int (nI 6)] 86 J G (some (.int r)) 86 J2 G := by
  refine mm_Met.of qR_work_ok (by decide) (mm_cats rfl) (Nat.le_of_ble_eq_true rfl) ?_
  refine mm_iload_n rfl rfl ?_
  refine mm_tableOut (tgt := 257) rfl (by decide) (by decide) ?_
  refine mm_aload_n rfl rfl ?_
  refine mm_iload_n rfl rfl ?_
  refine mm_isV1 (M2 := qR_move) wd_717 qR_move_k (by decide) h rfl (by decide) (Nat.le_of_ble_eq_true rfl) (by decide) (by decide) rfl (by decide) ?_
  refine mm_ireturn rfl rfl rfl (by decide) (by decide) ?_
  exact ⟨rfl, rfl, rfl, rfl⟩
set_option maxRecDepth 100000 in
set_option maxHeartbeats 4000000 in
theorem sR_wk7 {E : mm_E} {G : mm_G} {J : mm_J}  {r : Int32} {J2 : mm_J} (h : mm_Ret E qR_move [.ref 69, .int (nI 7)] 86 J G (some (.int r)) 86 J2 G) : mm_Ret E qR_work [.ref 69, .int (nI 7)] 86 J G (some (.int r)) 86 J2 G := by
  refine mm_Met.of qR_work_ok (by decide) (mm_cats rfl) (Nat.le_of_ble_eq_true rfl) ?_
  refine mm_iload_n rfl rfl ?_
  refine mm_tableOut (tgt := 257) rfl (by decide) (by decide) ?_
  refine mm_aload_n rfl rfl ?_
  refine mm_iload_n rfl rfl ?_
  refine mm_isV1 (M2 := qR_move) wd_717 qR_move_k (by decide) h rfl (by decide) (Nat.le_of_ble_eq_true rfl) (by decide) (by decide) rfl (by decide) ?_
  refine mm_ireturn rfl rfl rfl (by decide) (by decide) ?_
  exact ⟨rfl, rfl, rfl, rfl⟩
set_option maxRecDepth 100000 in
set_option maxHeartbeats 4000000 in
theorem sR_wk15 {E : mm_E} {G : mm_G} {J : mm_J}  {r : Int32} {J2 : mm_J} (h : mm_Ret E qR_move [.ref 69, .int (nI 15)] 86 J G (some (.int r)) 86 J2 G) : mm_Ret E qR_work [.ref 69, .int (nI 15)] 86 J G (some (.int r)) 86 J2 G := by
  refine mm_Met.of qR_work_ok (by decide) (mm_cats rfl) (Nat.le_of_ble_eq_true rfl) ?_
  refine mm_iload_n rfl rfl ?_
  refine mm_tableIn (off := 256) (tgt := 257) rfl (by decide) (by decide) rfl (by decide) ?_
  refine mm_aload_n rfl rfl ?_
  refine mm_iload_n rfl rfl ?_
  refine mm_isV1 (M2 := qR_move) wd_717 qR_move_k (by decide) h rfl (by decide) (Nat.le_of_ble_eq_true rfl) (by decide) (by decide) rfl (by decide) ?_
  refine mm_ireturn rfl rfl rfl (by decide) (by decide) ?_
  exact ⟨rfl, rfl, rfl, rfl⟩
set_option maxRecDepth 100000 in
set_option maxHeartbeats 4000000 in
theorem sR_wk18 {E : mm_E} {G : mm_G} {J : mm_J}  {r : Int32} {J2 : mm_J} (h : mm_Ret E qR_move [.ref 69, .int (nI 18)] 86 J G (some (.int r)) 86 J2 G) : mm_Ret E qR_work [.ref 69, .int (nI 18)] 86 J G (some (.int r)) 86 J2 G := by
  refine mm_Met.of qR_work_ok (by decide) (mm_cats rfl) (Nat.le_of_ble_eq_true rfl) ?_
  refine mm_iload_n rfl rfl ?_
  refine mm_tableIn (off := 256) (tgt := 257) rfl (by decide) (by decide) rfl (by decide) ?_
  refine mm_aload_n rfl rfl ?_
  refine mm_iload_n rfl rfl ?_
  refine mm_isV1 (M2 := qR_move) wd_717 qR_move_k (by decide) h rfl (by decide) (Nat.le_of_ble_eq_true rfl) (by decide) (by decide) rfl (by decide) ?_
  refine mm_ireturn rfl rfl rfl (by decide) (by decide) ?_
  exact ⟨rfl, rfl, rfl, rfl⟩
set_option maxRecDepth 100000 in
set_option maxHeartbeats 4000000 in
theorem sR_wk8 {E : mm_E} {G : mm_G} {J : mm_J} (hG : mm_GI G) {n q t : Nat} (hn : J 69 3 = nI n) (hn2 : n ≤ 100) (hp : J 69 5 = nI q) (hq : q ≤ n) (ht : J 69 7 = nI t) (ht9 : t ≤ 9) {r : Int32} {J2 : mm_J} (h : mm_Ret E qR_erase [.ref 69, .int (nI q), .int (nI (min t (n - q)))] 86 J G (some (.int r)) 86 J2 G) : mm_Ret E qR_work [.ref 69, .int (nI 8)] 86 J G (some (.int r)) 86 J2 G := by
  refine mm_Met.of qR_work_ok (by decide) (mm_cats rfl) (Nat.le_of_ble_eq_true rfl) ?_
  refine mm_iload_n rfl rfl ?_
  refine mm_tableIn (off := 67) (tgt := 68) rfl (by decide) (by decide) rfl (by decide) ?_
  refine mm_aload_n rfl rfl ?_
  refine mm_aload_n rfl rfl ?_
  refine mm_getI (x := nI q) rfl rfl rfl (by decide) rfl hp ?_
  refine mm_aload_n rfl rfl ?_
  refine mm_getI (x := nI n) rfl rfl rfl (by decide) rfl hn ?_
  refine mm_aload_n rfl rfl ?_
  refine mm_getI (x := nI q) rfl rfl rfl (by decide) rfl hp ?_
  refine mm_isubN rfl (by omega) ?_
  refine mm_aload_n rfl rfl ?_
  refine mm_getI (x := nI t) rfl rfl rfl (by decide) rfl ht ?_
  refine mm_icmp_geN (tgt := 101) rfl (by decide) (by omega) (by omega) (fun h86 => ?_) (fun h86 => ?_)
  · refine mm_aload_n rfl rfl ?_
    refine mm_getI (x := nI t) rfl rfl rfl (by decide) rfl ht ?_
    rw [show min t (n - q) = t by omega] at h
    refine mm_isV2 (M2 := qR_erase) wd_677 qR_erase_k (by decide) h rfl (by decide) (Nat.le_of_ble_eq_true rfl) (by decide) (by decide) rfl (by decide) ?_
    refine mm_ireturn rfl rfl rfl (by decide) (by decide) ?_
    exact ⟨rfl, rfl, rfl, rfl⟩
  · refine mm_aload_n rfl rfl ?_
    refine mm_getI (x := nI n) rfl rfl rfl (by decide) rfl hn ?_
    refine mm_aload_n rfl rfl ?_
    refine mm_getI (x := nI q) rfl rfl rfl (by decide) rfl hp ?_
    refine mm_isubN rfl (by omega) ?_
    refine mm_goto (tgt := 105) rfl (by decide) ?_
    rw [show min t (n - q) = n - q by omega] at h
    refine mm_isV2 (M2 := qR_erase) wd_677 qR_erase_k (by decide) h rfl (by decide) (Nat.le_of_ble_eq_true rfl) (by decide) (by decide) rfl (by decide) ?_
    refine mm_ireturn rfl rfl rfl (by decide) (by decide) ?_
    exact ⟨rfl, rfl, rfl, rfl⟩
set_option maxRecDepth 100000 in
set_option maxHeartbeats 4000000 in
theorem sR_wk9 {E : mm_E} {G : mm_G} {J : mm_J} (hG : mm_GI G) {n q t : Nat} (hn : J 69 3 = nI n) (hn2 : n ≤ 100) (hp : J 69 5 = nI q) (hq : q ≤ n) (ht : J 69 7 = nI t) (ht9 : t ≤ 9) {r : Int32} {J2 : mm_J} (h : mm_Ret E qR_erase [.ref 69, .int (nI (q - t)), .int (nI (min q t))] 86 J G (some (.int r)) 86 J2 G) : mm_Ret E qR_work [.ref 69, .int (nI 9)] 86 J G (some (.int r)) 86 J2 G := by
  refine mm_Met.of qR_work_ok (by decide) (mm_cats rfl) (Nat.le_of_ble_eq_true rfl) ?_
  refine mm_iload_n rfl rfl ?_
  refine mm_tableIn (off := 108) (tgt := 109) rfl (by decide) (by decide) rfl (by decide) ?_
  refine mm_aload_n rfl rfl ?_
  refine mm_getI (x := nI q) rfl rfl rfl (by decide) rfl hp ?_
  refine mm_aload_n rfl rfl ?_
  refine mm_getI (x := nI t) rfl rfl rfl (by decide) rfl ht ?_
  refine mm_icmp_geN (tgt := 132) rfl (by decide) (by omega) (by omega) (fun h117 => ?_) (fun h117 => ?_)
  · refine mm_aload_n rfl rfl ?_
    refine mm_aload_n rfl rfl ?_
    refine mm_getI (x := nI q) rfl rfl rfl (by decide) rfl hp ?_
    refine mm_aload_n rfl rfl ?_
    refine mm_getI (x := nI t) rfl rfl rfl (by decide) rfl ht ?_
    refine mm_isubN rfl (by omega) ?_
    refine mm_aload_n rfl rfl ?_
    refine mm_getI (x := nI t) rfl rfl rfl (by decide) rfl ht ?_
    rw [show min q t = t by omega] at h
    refine mm_isV2 (M2 := qR_erase) wd_677 qR_erase_k (by decide) h rfl (by decide) (Nat.le_of_ble_eq_true rfl) (by decide) (by decide) rfl (by decide) ?_
    refine mm_ireturn rfl rfl rfl (by decide) (by decide) ?_
    exact ⟨rfl, rfl, rfl, rfl⟩
  · refine mm_aload_n rfl rfl ?_
    refine mm_iconst (v := nI 0) rfl (by decide) ?_
    refine mm_aload_n rfl rfl ?_
    refine mm_getI (x := nI q) rfl rfl rfl (by decide) rfl hp ?_
    rw [show min q t = q by omega, show q - t = 0 by omega] at h
    refine mm_isV2 (M2 := qR_erase) wd_677 qR_erase_k (by decide) h rfl (by decide) (Nat.le_of_ble_eq_true rfl) (by decide) (by decide) rfl (by decide) ?_
    refine mm_goto (tgt := 149) rfl (by decide) ?_
    refine mm_ireturn rfl rfl rfl (by decide) (by decide) ?_
    exact ⟨rfl, rfl, rfl, rfl⟩
set_option maxRecDepth 100000 in
set_option maxHeartbeats 4000000 in
theorem sR_wk10 {E : mm_E} {G : mm_G} {J : mm_J}  {r : Int32} {J2 : mm_J} (h : mm_Ret E qR_killLine [.ref 69] 86 J G (some (.int r)) 86 J2 G) : mm_Ret E qR_work [.ref 69, .int (nI 10)] 86 J G (some (.int r)) 86 J2 G := by
  refine mm_Met.of qR_work_ok (by decide) (mm_cats rfl) (Nat.le_of_ble_eq_true rfl) ?_
  refine mm_iload_n rfl rfl ?_
  refine mm_tableIn (off := 149) (tgt := 150) rfl (by decide) (by decide) rfl (by decide) ?_
  refine mm_aload_n rfl rfl ?_
  refine mm_isV0 (M2 := qR_killLine) wd_681 qR_killLine_k (by decide) h rfl (by decide) (Nat.le_of_ble_eq_true rfl) (by decide) (by decide) rfl (by decide) ?_
  refine mm_ireturn rfl rfl rfl (by decide) (by decide) ?_
  exact ⟨rfl, rfl, rfl, rfl⟩
set_option maxRecDepth 100000 in
set_option maxHeartbeats 4000000 in
theorem sR_wk11 {E : mm_E} {G : mm_G} {J : mm_J}  {r : Int32} {J2 : mm_J} (h : mm_Ret E qR_killRegion [.ref 69, .int (nI 0)] 86 J G (some (.int r)) 86 J2 G) : mm_Ret E qR_work [.ref 69, .int (nI 11)] 86 J G (some (.int r)) 86 J2 G := by
  refine mm_Met.of qR_work_ok (by decide) (mm_cats rfl) (Nat.le_of_ble_eq_true rfl) ?_
  refine mm_iload_n rfl rfl ?_
  refine mm_tableIn (off := 154) (tgt := 155) rfl (by decide) (by decide) rfl (by decide) ?_
  refine mm_aload_n rfl rfl ?_
  refine mm_iconst (v := nI 0) rfl (by decide) ?_
  refine mm_isV1 (M2 := qR_killRegion) wd_693 qR_killRegion_k (by decide) h rfl (by decide) (Nat.le_of_ble_eq_true rfl) (by decide) (by decide) rfl (by decide) ?_
  refine mm_ireturn rfl rfl rfl (by decide) (by decide) ?_
  exact ⟨rfl, rfl, rfl, rfl⟩
set_option maxRecDepth 100000 in
set_option maxHeartbeats 4000000 in
theorem sR_wk12 {E : mm_E} {G : mm_G} {J : mm_J}  {r : Int32} {J2 : mm_J} (h : mm_Ret E qR_killRegion [.ref 69, .int (nI 1)] 86 J G (some (.int r)) 86 J2 G) : mm_Ret E qR_work [.ref 69, .int (nI 12)] 86 J G (some (.int r)) 86 J2 G := by
  refine mm_Met.of qR_work_ok (by decide) (mm_cats rfl) (Nat.le_of_ble_eq_true rfl) ?_
  refine mm_iload_n rfl rfl ?_
  refine mm_tableIn (off := 160) (tgt := 161) rfl (by decide) (by decide) rfl (by decide) ?_
  refine mm_aload_n rfl rfl ?_
  refine mm_iconst (v := nI 1) rfl (by decide) ?_
  refine mm_isV1 (M2 := qR_killRegion) wd_693 qR_killRegion_k (by decide) h rfl (by decide) (Nat.le_of_ble_eq_true rfl) (by decide) (by decide) rfl (by decide) ?_
  refine mm_ireturn rfl rfl rfl (by decide) (by decide) ?_
  exact ⟨rfl, rfl, rfl, rfl⟩
set_option maxRecDepth 100000 in
set_option maxHeartbeats 4000000 in
theorem sR_wk13x {E : mm_E} {G : mm_G} {J : mm_J} (hG : mm_GI G) {c q : Nat} (hc : J 69 14 = nI c) (hc2 : c ≤ 4) (hp : J 69 5 = nI q) (h0 : c = 0) : mm_Ret E qR_work [.ref 69, .int (nI 13)] 86 J G (some (.int (-2))) 86 J G := by
  refine mm_Met.of qR_work_ok (by decide) (mm_cats rfl) (Nat.le_of_ble_eq_true rfl) ?_
  refine mm_iload_n rfl rfl ?_
  refine mm_tableIn (off := 166) (tgt := 167) rfl (by decide) (by decide) rfl (by decide) ?_
  refine mm_aload_n rfl rfl ?_
  refine mm_getI (x := nI c) rfl rfl rfl (by decide) rfl hc ?_
  refine mm_if_neN (tgt := 179) rfl (by decide) (by omega) (fun h171 => ?_) (fun h171 => ?_)
  · exact absurd h0 h171
  · refine mm_bipush (v := -2) rfl (by decide) ?_
    refine mm_goto (tgt := 189) rfl (by decide) ?_
    refine mm_ireturn rfl rfl rfl (by decide) (by decide) ?_
    exact ⟨rfl, rfl, rfl, rfl⟩
set_option maxRecDepth 100000 in
set_option maxHeartbeats 4000000 in
theorem sR_wk13 {E : mm_E} {G : mm_G} {J : mm_J} (hG : mm_GI G) {c q : Nat} (hc : J 69 14 = nI c) (hc2 : c ≤ 4) (hp : J 69 5 = nI q) (h0 : 0 < c) {r : Int32} {J2 : mm_J} (h : mm_Ret E qR_yank [.ref 69, .int (nI q), .int (nI 0), .int (nI 0)] 86 J G (some (.int r)) 86 J2 G) : mm_Ret E qR_work [.ref 69, .int (nI 13)] 86 J G (some (.int r)) 86 J2 G := by
  refine mm_Met.of qR_work_ok (by decide) (mm_cats rfl) (Nat.le_of_ble_eq_true rfl) ?_
  refine mm_iload_n rfl rfl ?_
  refine mm_tableIn (off := 166) (tgt := 167) rfl (by decide) (by decide) rfl (by decide) ?_
  refine mm_aload_n rfl rfl ?_
  refine mm_getI (x := nI c) rfl rfl rfl (by decide) rfl hc ?_
  refine mm_if_neN (tgt := 179) rfl (by decide) (by omega) (fun h171 => ?_) (fun h171 => ?_)
  · refine mm_aload_n rfl rfl ?_
    refine mm_aload_n rfl rfl ?_
    refine mm_getI (x := nI q) rfl rfl rfl (by decide) rfl hp ?_
    refine mm_iconst (v := nI 0) rfl (by decide) ?_
    refine mm_iconst (v := nI 0) rfl (by decide) ?_
    refine mm_isV3 (M2 := qR_yank) wd_697 qR_yank_k (by decide) h rfl (by decide) (Nat.le_of_ble_eq_true rfl) (by decide) (by decide) rfl (by decide) ?_
    refine mm_ireturn rfl rfl rfl (by decide) (by decide) ?_
    exact ⟨rfl, rfl, rfl, rfl⟩
  · exact absurd h171 (by omega)
set_option maxRecDepth 100000 in
set_option maxHeartbeats 4000000 in
theorem sR_wk14x {E : mm_E} {G : mm_G} {J : mm_J} (hl : ¬ J 69 8 = nI 13 ∧ ¬ J 69 8 = nI 14) : mm_Ret E qR_work [.ref 69, .int (nI 14)] 86 J G (some (.int (-2))) 86 J G := by
  refine mm_Met.of qR_work_ok (by decide) (mm_cats rfl) (Nat.le_of_ble_eq_true rfl) ?_
  refine mm_iload_n rfl rfl ?_
  refine mm_tableIn (off := 189) (tgt := 190) rfl (by decide) (by decide) rfl (by decide) ?_
  refine mm_aload_n rfl rfl ?_
  refine mm_getI rfl rfl rfl (by decide) rfl rfl ?_
  refine mm_bipush (v := nI 13) rfl (by decide) ?_
  refine mm_icmp_eq (tgt := 213) rfl (by decide) (fun h196 => ?_) (fun h196 => ?_)
  · exact absurd h196 hl.1
  · refine mm_aload_n rfl rfl ?_
    refine mm_getI rfl rfl rfl (by decide) rfl rfl ?_
    refine mm_bipush (v := nI 14) rfl (by decide) ?_
    refine mm_icmp_eq (tgt := 213) rfl (by decide) (fun h205 => ?_) (fun h205 => ?_)
    · exact absurd h205 hl.2
    · refine mm_bipush (v := -2) rfl (by decide) ?_
      refine mm_goto (tgt := 236) rfl (by decide) ?_
      refine mm_ireturn rfl rfl rfl (by decide) (by decide) ?_
      exact ⟨rfl, rfl, rfl, rfl⟩
set_option maxRecDepth 100000 in
set_option maxHeartbeats 4000000 in
theorem sR_wk14 {E : mm_E} {G : mm_G} {J : mm_J} (hl : J 69 8 = nI 13 ∨ J 69 8 = nI 14) {c y a d : Nat} (hc : J 69 14 = nI c) (hc2 : c ≤ 4) (hy : J 69 17 = nI y) (hyc : y < c) (ha : J 69 15 = nI a) (hd : J 69 16 = nI d) {r : Int32} {J2 : mm_J} (h : mm_Ret E qR_yank [.ref 69, .int (nI a), .int (nI d), .int (nI ((y + 1) % c))] 86 J G (some (.int r)) 86 J2 G) : mm_Ret E qR_work [.ref 69, .int (nI 14)] 86 J G (some (.int r)) 86 J2 G := by
  refine mm_Met.of qR_work_ok (by decide) (mm_cats rfl) (Nat.le_of_ble_eq_true rfl) ?_
  refine mm_iload_n rfl rfl ?_
  refine mm_tableIn (off := 189) (tgt := 190) rfl (by decide) (by decide) rfl (by decide) ?_
  refine mm_aload_n rfl rfl ?_
  refine mm_getI rfl rfl rfl (by decide) rfl rfl ?_
  refine mm_bipush (v := nI 13) rfl (by decide) ?_
  refine mm_icmp_eq (tgt := 213) rfl (by decide) (fun h196 => ?_) (fun h196 => ?_)
  · refine mm_aload_n rfl rfl ?_
    refine mm_aload_n rfl rfl ?_
    refine mm_getI (x := nI a) rfl rfl rfl (by decide) rfl ha ?_
    refine mm_aload_n rfl rfl ?_
    refine mm_getI (x := nI d) rfl rfl rfl (by decide) rfl hd ?_
    refine mm_aload_n rfl rfl ?_
    refine mm_getI (x := nI y) rfl rfl rfl (by decide) rfl hy ?_
    refine mm_iconst (v := nI 1) rfl (by decide) ?_
    refine mm_iaddN rfl ?_
    refine mm_aload_n rfl rfl ?_
    refine mm_getI (x := nI c) rfl rfl rfl (by decide) rfl hc ?_
    refine mm_iremN rfl (by omega) (by omega) (by omega) ?_
    refine mm_isV3 (M2 := qR_yank) wd_697 qR_yank_k (by decide) h rfl (by decide) (Nat.le_of_ble_eq_true rfl) (by decide) (by decide) rfl (by decide) ?_
    refine mm_ireturn rfl rfl rfl (by decide) (by decide) ?_
    exact ⟨rfl, rfl, rfl, rfl⟩
  · refine mm_aload_n rfl rfl ?_
    refine mm_getI rfl rfl rfl (by decide) rfl rfl ?_
    refine mm_bipush (v := nI 14) rfl (by decide) ?_
    refine mm_icmp_eq (tgt := 213) rfl (by decide) (fun h205 => ?_) (fun h205 => ?_)
    · refine mm_aload_n rfl rfl ?_
      refine mm_aload_n rfl rfl ?_
      refine mm_getI (x := nI a) rfl rfl rfl (by decide) rfl ha ?_
      refine mm_aload_n rfl rfl ?_
      refine mm_getI (x := nI d) rfl rfl rfl (by decide) rfl hd ?_
      refine mm_aload_n rfl rfl ?_
      refine mm_getI (x := nI y) rfl rfl rfl (by decide) rfl hy ?_
      refine mm_iconst (v := nI 1) rfl (by decide) ?_
      refine mm_iaddN rfl ?_
      refine mm_aload_n rfl rfl ?_
      refine mm_getI (x := nI c) rfl rfl rfl (by decide) rfl hc ?_
      refine mm_iremN rfl (by omega) (by omega) (by omega) ?_
      refine mm_isV3 (M2 := qR_yank) wd_697 qR_yank_k (by decide) h rfl (by decide) (Nat.le_of_ble_eq_true rfl) (by decide) (by decide) rfl (by decide) ?_
      refine mm_ireturn rfl rfl rfl (by decide) (by decide) ?_
      exact ⟨rfl, rfl, rfl, rfl⟩
    · exact absurd hl (fun e => e.elim h196 h205)
set_option maxRecDepth 100000 in
set_option maxHeartbeats 4000000 in
theorem sR_wk16 {E : mm_E} {G : mm_G} {J : mm_J}  {r : Int32} {J2 : mm_J} (h : mm_Ret E qR_exchange [.ref 69] 86 J G (some (.int r)) 86 J2 G) : mm_Ret E qR_work [.ref 69, .int (nI 16)] 86 J G (some (.int r)) 86 J2 G := by
  refine mm_Met.of qR_work_ok (by decide) (mm_cats rfl) (Nat.le_of_ble_eq_true rfl) ?_
  refine mm_iload_n rfl rfl ?_
  refine mm_tableIn (off := 236) (tgt := 237) rfl (by decide) (by decide) rfl (by decide) ?_
  refine mm_aload_n rfl rfl ?_
  refine mm_isV0 (M2 := qR_exchange) wd_701 qR_exchange_k (by decide) h rfl (by decide) (Nat.le_of_ble_eq_true rfl) (by decide) (by decide) rfl (by decide) ?_
  refine mm_ireturn rfl rfl rfl (by decide) (by decide) ?_
  exact ⟨rfl, rfl, rfl, rfl⟩
set_option maxRecDepth 100000 in
set_option maxHeartbeats 4000000 in
theorem sR_wk17 {E : mm_E} {G : mm_G} {J : mm_J}  {r : Int32} {J2 : mm_J} (h : mm_Ret E qR_swap [.ref 69] 86 J G (some (.int r)) 86 J2 G) : mm_Ret E qR_work [.ref 69, .int (nI 17)] 86 J G (some (.int r)) 86 J2 G := by
  refine mm_Met.of qR_work_ok (by decide) (mm_cats rfl) (Nat.le_of_ble_eq_true rfl) ?_
  refine mm_iload_n rfl rfl ?_
  refine mm_tableIn (off := 241) (tgt := 242) rfl (by decide) (by decide) rfl (by decide) ?_
  refine mm_aload_n rfl rfl ?_
  refine mm_isV0 (M2 := qR_swap) wd_705 qR_swap_k (by decide) h rfl (by decide) (Nat.le_of_ble_eq_true rfl) (by decide) (by decide) rfl (by decide) ?_
  refine mm_ireturn rfl rfl rfl (by decide) (by decide) ?_
  exact ⟨rfl, rfl, rfl, rfl⟩
set_option maxRecDepth 100000 in
set_option maxHeartbeats 4000000 in
theorem sR_wk19 {E : mm_E} {G : mm_G} {J : mm_J}  {r : Int32} {J2 : mm_J} (h : mm_Ret E qR_undo [.ref 69] 86 J G (some (.int r)) 86 J2 G) : mm_Ret E qR_work [.ref 69, .int (nI 19)] 86 J G (some (.int r)) 86 J2 G := by
  refine mm_Met.of qR_work_ok (by decide) (mm_cats rfl) (Nat.le_of_ble_eq_true rfl) ?_
  refine mm_iload_n rfl rfl ?_
  refine mm_tableIn (off := 246) (tgt := 247) rfl (by decide) (by decide) rfl (by decide) ?_
  refine mm_aload_n rfl rfl ?_
  refine mm_isV0 (M2 := qR_undo) wd_709 qR_undo_k (by decide) h rfl (by decide) (Nat.le_of_ble_eq_true rfl) (by decide) (by decide) rfl (by decide) ?_
  refine mm_ireturn rfl rfl rfl (by decide) (by decide) ?_
  exact ⟨rfl, rfl, rfl, rfl⟩
set_option maxRecDepth 100000 in
set_option maxHeartbeats 4000000 in
theorem sR_wk20 {E : mm_E} {G : mm_G} {J : mm_J}  {r : Int32} {J2 : mm_J} (h : mm_Ret E qR_search [.ref 69] 86 J G (some (.int r)) 86 J2 G) : mm_Ret E qR_work [.ref 69, .int (nI 20)] 86 J G (some (.int r)) 86 J2 G := by
  refine mm_Met.of qR_work_ok (by decide) (mm_cats rfl) (Nat.le_of_ble_eq_true rfl) ?_
  refine mm_iload_n rfl rfl ?_
  refine mm_tableIn (off := 251) (tgt := 252) rfl (by decide) (by decide) rfl (by decide) ?_
  refine mm_aload_n rfl rfl ?_
  refine mm_isV0 (M2 := qR_search) wd_713 qR_search_k (by decide) h rfl (by decide) (Nat.le_of_ble_eq_true rfl) (by decide) (by decide) rfl (by decide) ?_
  refine mm_ireturn rfl rfl rfl (by decide) (by decide) ?_
  exact ⟨rfl, rfl, rfl, rfl⟩
set_option maxRecDepth 100000 in
set_option maxHeartbeats 4000000 in
theorem sR_perform0 {E : mm_E} {G : mm_G} {J : mm_J} {k : Nat} {r : Int32} {J2 : mm_J} (h : mm_Ret E qR_work [.ref 69, .int (nI k)] 86 J G (some (.int r)) 86 J2 G) (hr : r < 0) : mm_Ret E qR_perform [.ref 69, .int (nI k)] 86 J G (some (.int r)) 86 J2 G := by
  refine mm_Met.of qR_perform_ok (by decide) (mm_cats rfl) (Nat.le_of_ble_eq_true rfl) ?_
  refine mm_aload_n rfl rfl ?_
  refine mm_iload_n rfl rfl ?_
  refine mm_isV1 (M2 := qR_work) wd_673 qR_work_k (by decide) h rfl (by decide) (Nat.le_of_ble_eq_true rfl) (by decide) (by decide) rfl (by decide) ?_
  refine mm_istore_n rfl (by decide) ?_
  refine mm_iload_n rfl rfl ?_
  refine mm_if_ge (tgt := 14) rfl (by decide) (fun h7 => ?_) (fun h7 => ?_)
  · exact absurd hr (Int32.not_lt.mpr h7)
  · refine mm_iload_n rfl rfl ?_
    refine mm_goto (tgt := 19) rfl (by decide) ?_
    refine mm_ireturn rfl rfl rfl (by decide) (by decide) ?_
    exact ⟨rfl, rfl, rfl, rfl⟩
set_option maxRecDepth 100000 in
set_option maxHeartbeats 4000000 in
theorem sR_perform1 {E : mm_E} {G : mm_G} {J : mm_J} {k : Nat} {r : Int32} {J2 : mm_J} (h : mm_Ret E qR_work [.ref 69, .int (nI k)] 86 J G (some (.int r)) 86 J2 G) (hr : ¬ r < 0) : mm_Ret E qR_perform [.ref 69, .int (nI k)] 86 J G (some (.int (nI 0))) 86 (mm_set (mm_set J2 69 8 (nI k)) 69 7 (nI 1)) G := by
  refine mm_Met.of qR_perform_ok (by decide) (mm_cats rfl) (Nat.le_of_ble_eq_true rfl) ?_
  refine mm_aload_n rfl rfl ?_
  refine mm_iload_n rfl rfl ?_
  refine mm_isV1 (M2 := qR_work) wd_673 qR_work_k (by decide) h rfl (by decide) (Nat.le_of_ble_eq_true rfl) (by decide) (by decide) rfl (by decide) ?_
  refine mm_istore_n rfl (by decide) ?_
  refine mm_iload_n rfl rfl ?_
  refine mm_if_ge (tgt := 14) rfl (by decide) (fun h7 => ?_) (fun h7 => ?_)
  · refine mm_aload_n rfl rfl ?_
    refine mm_iload_n rfl rfl ?_
    refine mm_isV1 (M2 := qR_done) wd_649 qR_done_k (by decide) sR_done rfl (by decide) (Nat.le_of_ble_eq_true rfl) (by decide) (by decide) rfl (by decide) ?_
    refine mm_ireturn rfl rfl rfl (by decide) (by decide) ?_
    exact ⟨rfl, rfl, rfl, rfl⟩
  · exact absurd (Int32.not_lt.mp hr) h7
set_option maxRecDepth 100000 in
set_option maxHeartbeats 4000000 in
theorem sR_jot0 {E : mm_E} {G : mm_G} {J : mm_J} {c : Int32} {z rc : Nat} (hr : J 69 32 = nI rc) (hr2 : rc < 2) (hz : J 69 31 = nI z) (hz2 : z ≤ 12) (h : rc = 0 ∨ z = 12) : mm_Ret E qR_jot [.ref 69, .int c] 86 J G none 86 J G := by
  refine mm_Met.of qR_jot_ok (by decide) (mm_cats rfl) (Nat.le_of_ble_eq_true rfl) ?_
  refine mm_aload_n rfl rfl ?_
  refine mm_getI (x := nI rc) rfl rfl rfl (by decide) rfl hr ?_
  refine mm_if_eqN (tgt := 16) rfl (by decide) (by omega) (fun h4 => ?_) (fun h4 => ?_)
  · refine mm_return rfl rfl (by decide) (by decide) ?_
    exact ⟨rfl, rfl, rfl, rfl⟩
  · refine mm_aload_n rfl rfl ?_
    refine mm_getI (x := nI z) rfl rfl rfl (by decide) rfl hz ?_
    refine mm_bipush (v := nI 12) rfl (by decide) ?_
    refine mm_icmp_neN (tgt := 17) rfl (by decide) (by omega) (by omega) (fun h13 => ?_) (fun h13 => ?_)
    · exact absurd (h.elim (fun e => absurd e h4) id) h13
    · refine mm_return rfl rfl (by decide) (by decide) ?_
      exact ⟨rfl, rfl, rfl, rfl⟩
set_option maxRecDepth 100000 in
set_option maxHeartbeats 4000000 in
theorem sR_jot1 {E : mm_E} {G : mm_G} {J : mm_J} (hG : mm_GI G) {c : Int32} {z : Nat} (hr : J 69 32 = nI 1) (hz : J 69 31 = nI z) (hz2 : z < 12) : mm_Ret E qR_jot [.ref 69, .int c] 86 J G none 86 (mm_set (mm_set J 85 z c) 69 31 (nI (z + 1))) G := by
  refine mm_Met.of qR_jot_ok (by decide) (mm_cats rfl) (Nat.le_of_ble_eq_true rfl) ?_
  refine mm_aload_n rfl rfl ?_
  refine mm_getI (x := nI 1) rfl rfl rfl (by decide) rfl hr ?_
  refine mm_if_eqN (tgt := 16) rfl (by decide) (by decide) (fun h4 => ?_) (fun h4 => ?_)
  · exact absurd h4 (by decide)
  · refine mm_aload_n rfl rfl ?_
    refine mm_getI (x := nI z) rfl rfl rfl (by decide) rfl hz ?_
    refine mm_bipush (v := nI 12) rfl (by decide) ?_
    refine mm_icmp_neN (tgt := 17) rfl (by decide) (by omega) (by omega) (fun h13 => ?_) (fun h13 => ?_)
    · refine mm_aload_n rfl rfl ?_
      refine mm_getR rfl rfl rfl (by decide) rfl (mm_gi hG 69 30 85 (by decide)) ?_
      refine mm_aload_n rfl rfl ?_
      refine mm_getI (x := nI z) rfl rfl rfl (by decide) rfl hz ?_
      refine mm_iload_n rfl rfl ?_
      refine mm_wrN rfl (by decide) rfl (by decide) (by omega) (by decide) rfl ?_
      refine mm_aload_n rfl rfl ?_
      refine mm_dup rfl rfl ?_
      refine mm_getI (x := nI z) rfl rfl rfl (by decide) rfl (by simp [mm_set, mm_cp, hz]) ?_
      refine mm_iconst (v := nI 1) rfl (by decide) ?_
      refine mm_iaddN rfl ?_
      refine mm_putI rfl rfl rfl (by decide) rfl (Or.inl rfl) rfl rfl ?_
      refine mm_return rfl rfl (by decide) (by decide) ?_
      exact ⟨rfl, rfl, rfl, rfl⟩
    · exact absurd h13 (by omega)
set_option maxRecDepth 100000 in
set_option maxHeartbeats 4000000 in
theorem sR_type0 {E : mm_E} {G : mm_G} {J : mm_J} {c : Int32} {r : Int32} {J2 : mm_J} (h : mm_Ret E qR_insert [.ref 69, .int c] 86 J G (some (.int r)) 86 J2 G) (hr : r < 0) : mm_Ret E qR_type [.ref 69, .int c] 86 J G (some (.int r)) 86 J2 G := by
  refine mm_Met.of qR_type_ok (by decide) (mm_cats rfl) (Nat.le_of_ble_eq_true rfl) ?_
  refine mm_aload_n rfl rfl ?_
  refine mm_iload_n rfl rfl ?_
  refine mm_isV1 (M2 := qR_insert) wd_631 qR_insert_k (by decide) h rfl (by decide) (Nat.le_of_ble_eq_true rfl) (by decide) (by decide) rfl (by decide) ?_
  refine mm_istore_n rfl (by decide) ?_
  refine mm_iload_n rfl rfl ?_
  refine mm_if_lt (tgt := 19) rfl (by decide) (fun h7 => ?_) (fun h7 => ?_)
  · refine mm_iload_n rfl rfl ?_
    refine mm_ireturn rfl rfl rfl (by decide) (by decide) ?_
    exact ⟨rfl, rfl, rfl, rfl⟩
  · exact absurd hr h7
set_option maxRecDepth 100000 in
set_option maxHeartbeats 4000000 in
theorem sR_type1 {E : mm_E} {G : mm_G} {J : mm_J} {c : Int32} {r : Int32} {J2 : mm_J} (h : mm_Ret E qR_insert [.ref 69, .int c] 86 J G (some (.int r)) 86 J2 G) (hr : ¬ r < 0) {J3 : mm_J} (hj : mm_Ret E qR_jot [.ref 69, .int (nI 1000 + c)] 86 J2 G none 86 J3 G) : mm_Ret E qR_type [.ref 69, .int c] 86 J G (some (.int r)) 86 J3 G := by
  refine mm_Met.of qR_type_ok (by decide) (mm_cats rfl) (Nat.le_of_ble_eq_true rfl) ?_
  refine mm_aload_n rfl rfl ?_
  refine mm_iload_n rfl rfl ?_
  refine mm_isV1 (M2 := qR_insert) wd_631 qR_insert_k (by decide) h rfl (by decide) (Nat.le_of_ble_eq_true rfl) (by decide) (by decide) rfl (by decide) ?_
  refine mm_istore_n rfl (by decide) ?_
  refine mm_iload_n rfl rfl ?_
  refine mm_if_lt (tgt := 19) rfl (by decide) (fun h7 => ?_) (fun h7 => ?_)
  · exact absurd h7 hr
  · refine mm_aload_n rfl rfl ?_
    refine mm_sipush (v := nI 1000) rfl (by decide) ?_
    refine mm_iload_n rfl rfl ?_
    refine mm_iadd rfl ?_
    refine mm_isV1 (M2 := qR_jot) wd_653 qR_jot_k (by decide) hj rfl (by decide) (Nat.le_of_ble_eq_true rfl) (by decide) (by decide) rfl (by decide) ?_
    refine mm_iload_n rfl rfl ?_
    refine mm_ireturn rfl rfl rfl (by decide) (by decide) ?_
    exact ⟨rfl, rfl, rfl, rfl⟩
set_option maxRecDepth 100000 in
set_option maxHeartbeats 4000000 in
theorem sR_commandX {E : mm_E} {G : mm_G} {J : mm_J} {x : Int32} (h : x < 0 ∨ nI 21 < x) : mm_Ret E qR_command [.ref 69, .int x] 86 J G (some (.int (-1))) 86 J G := by
  refine mm_Met.of qR_command_ok (by decide) (mm_cats rfl) (Nat.le_of_ble_eq_true rfl) ?_
  refine mm_iload_n rfl rfl ?_
  refine mm_if_lt (tgt := 10) rfl (by decide) (fun h1 => ?_) (fun h1 => ?_)
  · refine mm_iconst (v := -1) rfl (by decide) ?_
    refine mm_ireturn rfl rfl rfl (by decide) (by decide) ?_
    exact ⟨rfl, rfl, rfl, rfl⟩
  · refine mm_iload_n rfl rfl ?_
    refine mm_bipush (v := nI 21) rfl (by decide) ?_
    refine mm_icmp_le (tgt := 12) rfl (by decide) (fun h7 => ?_) (fun h7 => ?_)
    · exact h.elim (fun q => absurd q h1) (fun q => absurd h7 (Int32.not_le.mpr q))
    · refine mm_iconst (v := -1) rfl (by decide) ?_
      refine mm_ireturn rfl rfl rfl (by decide) (by decide) ?_
      exact ⟨rfl, rfl, rfl, rfl⟩
set_option maxRecDepth 100000 in
set_option maxHeartbeats 4000000 in
theorem sR_command21 {E : mm_E} {G : mm_G} {J : mm_J} {r : Int32} {J2 : mm_J} (h : mm_Ret E qR_play [.ref 69] 86 J G (some (.int r)) 86 J2 G) : mm_Ret E qR_command [.ref 69, .int (nI 21)] 86 J G (some (.int r)) 86 J2 G := by
  refine mm_Met.of qR_command_ok (by decide) (mm_cats rfl) (Nat.le_of_ble_eq_true rfl) ?_
  refine mm_iload_n rfl rfl ?_
  refine mm_if_ltN (tgt := 10) rfl (by decide) (by omega) ?_
  refine mm_iload_n rfl rfl ?_
  refine mm_bipush (v := nI 21) rfl (by decide) ?_
  refine mm_icmp_leN (tgt := 12) rfl (by decide) (by decide) (by decide) (fun _ => ?_) (fun h => absurd h (by decide))
  refine mm_iload_n rfl rfl ?_
  refine mm_bipush (v := nI 21) rfl (by decide) ?_
  refine mm_icmp_neN (tgt := 25) rfl (by decide) (by decide) (by decide) (fun h => absurd h (by decide)) (fun _ => ?_)
  refine mm_aload_n rfl rfl ?_
  refine mm_isV0 (M2 := qR_play) wd_661 qR_play_k (by decide) h rfl (by decide) (Nat.le_of_ble_eq_true rfl) (by decide) (by decide) rfl (by decide) ?_
  refine mm_goto (tgt := 30) rfl (by decide) ?_
  refine mm_ireturn rfl rfl rfl (by decide) (by decide) ?_
  exact ⟨rfl, rfl, rfl, rfl⟩
set_option maxRecDepth 100000 in
set_option maxHeartbeats 4000000 in
theorem sR_commandP {E : mm_E} {G : mm_G} {J : mm_J} {k : Nat} (hk : k < 21) {r : Int32} {J2 : mm_J} (h : mm_Ret E qR_perform [.ref 69, .int (nI k)] 86 J G (some (.int r)) 86 J2 G) : mm_Ret E qR_command [.ref 69, .int (nI k)] 86 J G (some (.int r)) 86 J2 G := by
  refine mm_Met.of qR_command_ok (by decide) (mm_cats rfl) (Nat.le_of_ble_eq_true rfl) ?_
  refine mm_iload_n rfl rfl ?_
  refine mm_if_ltN (tgt := 10) rfl (by decide) (by omega) ?_
  refine mm_iload_n rfl rfl ?_
  refine mm_bipush (v := nI 21) rfl (by decide) ?_
  refine mm_icmp_leN (tgt := 12) rfl (by decide) (by omega) (by omega) (fun h7 => ?_) (fun h7 => ?_)
  · refine mm_iload_n rfl rfl ?_
    refine mm_bipush (v := nI 21) rfl (by decide) ?_
    refine mm_icmp_neN (tgt := 25) rfl (by decide) (by omega) (by omega) (fun h15 => ?_) (fun h15 => ?_)
    · refine mm_aload_n rfl rfl ?_
      refine mm_iload_n rfl rfl ?_
      refine mm_isV1 (M2 := qR_perform) wd_669 qR_perform_k (by decide) h rfl (by decide) (Nat.le_of_ble_eq_true rfl) (by decide) (by decide) rfl (by decide) ?_
      refine mm_ireturn rfl rfl rfl (by decide) (by decide) ?_
      exact ⟨rfl, rfl, rfl, rfl⟩
    · exact absurd h15 (by omega)
  · exact absurd h7 (by omega)
set_option maxRecDepth 100000 in
set_option maxHeartbeats 4000000 in
theorem sR_pressX {E : mm_E} {G : mm_G} {J : mm_J} {x : Int32} (h : x < 0 ∨ nI 15 < x) : mm_Ret E qR_press [.ref 69, .int x] 86 J G (some (.int (-1))) 86 J G := by
  refine mm_Met.of qR_press_ok (by decide) (mm_cats rfl) (Nat.le_of_ble_eq_true rfl) ?_
  refine mm_iload_n rfl rfl ?_
  refine mm_if_lt (tgt := 10) rfl (by decide) (fun h1 => ?_) (fun h1 => ?_)
  · refine mm_iconst (v := -1) rfl (by decide) ?_
    refine mm_ireturn rfl rfl rfl (by decide) (by decide) ?_
    exact ⟨rfl, rfl, rfl, rfl⟩
  · refine mm_iload_n rfl rfl ?_
    refine mm_bipush (v := nI 15) rfl (by decide) ?_
    refine mm_icmp_le (tgt := 12) rfl (by decide) (fun h7 => ?_) (fun h7 => ?_)
    · exact h.elim (fun q => absurd q h1) (fun q => absurd h7 (Int32.not_le.mpr q))
    · refine mm_iconst (v := -1) rfl (by decide) ?_
      refine mm_ireturn rfl rfl rfl (by decide) (by decide) ?_
      exact ⟨rfl, rfl, rfl, rfl⟩
set_option maxRecDepth 100000 in
set_option maxHeartbeats 4000000 in
theorem sR_press210 {E : mm_E} {G : mm_G} {J : mm_J} {x : Nat} (hx : x ≤ 15) {cal : Int32} {J1 : mm_J} (hs : mm_Ret E qR_resolve [.ref 69, .int (nI x)] 86 J G (some (.int cal)) 86 J1 G) (hc : cal = nI 21) {r : Int32} {J2 : mm_J} (h : mm_Ret E qR_play [.ref 69] 86 J1 G (some (.int r)) 86 J2 G) (hr : r < 0) : mm_Ret E qR_press [.ref 69, .int (nI x)] 86 J G (some (.int r)) 86 J2 G := by
  refine mm_Met.of qR_press_ok (by decide) (mm_cats rfl) (Nat.le_of_ble_eq_true rfl) ?_
  refine mm_iload_n rfl rfl ?_
  refine mm_if_ltN (tgt := 10) rfl (by decide) (by omega) ?_
  refine mm_iload_n rfl rfl ?_
  refine mm_bipush (v := nI 15) rfl (by decide) ?_
  refine mm_icmp_leN (tgt := 12) rfl (by decide) (by omega) (by omega) (fun h7 => ?_) (fun h7 => ?_)
  · refine mm_aload_n rfl rfl ?_
    refine mm_iload_n rfl rfl ?_
    refine mm_isV1 (M2 := qR_resolve) wd_665 qR_resolve_k (by decide) hs rfl (by decide) (Nat.le_of_ble_eq_true rfl) (by decide) (by decide) rfl (by decide) ?_
    refine mm_istore_n rfl (by decide) ?_
    refine mm_iload_n rfl rfl ?_
    refine mm_bipush (v := nI 21) rfl (by decide) ?_
    refine mm_icmp_ne (tgt := 32) rfl (by decide) (fun h21 => ?_) (fun h21 => ?_)
    · exact absurd hc h21
    · refine mm_aload_n rfl rfl ?_
      refine mm_isV0 (M2 := qR_play) wd_661 qR_play_k (by decide) h rfl (by decide) (Nat.le_of_ble_eq_true rfl) (by decide) (by decide) rfl (by decide) ?_
      refine mm_istore_n rfl (by decide) ?_
      refine mm_goto (tgt := 48) rfl (by decide) ?_
      refine mm_iload_n rfl rfl ?_
      refine mm_if_lt (tgt := 57) rfl (by decide) (fun h49 => ?_) (fun h49 => ?_)
      · refine mm_iload_n rfl rfl ?_
        refine mm_ireturn rfl rfl rfl (by decide) (by decide) ?_
        exact ⟨rfl, rfl, rfl, rfl⟩
      · exact absurd hr h49
  · exact absurd h7 (by omega)
set_option maxRecDepth 100000 in
set_option maxHeartbeats 4000000 in
theorem sR_press211 {E : mm_E} {G : mm_G} {J : mm_J} {x : Nat} (hx : x ≤ 15) {cal : Int32} {J1 : mm_J} (hs : mm_Ret E qR_resolve [.ref 69, .int (nI x)] 86 J G (some (.int cal)) 86 J1 G) (hc : cal = nI 21) {r : Int32} {J2 : mm_J} (h : mm_Ret E qR_play [.ref 69] 86 J1 G (some (.int r)) 86 J2 G) (hr : ¬ r < 0) {J3 : mm_J} (hj : mm_Ret E qR_jot [.ref 69, .int (nI x)] 86 J2 G none 86 J3 G) : mm_Ret E qR_press [.ref 69, .int (nI x)] 86 J G (some (.int r)) 86 J3 G := by
  refine mm_Met.of qR_press_ok (by decide) (mm_cats rfl) (Nat.le_of_ble_eq_true rfl) ?_
  refine mm_iload_n rfl rfl ?_
  refine mm_if_ltN (tgt := 10) rfl (by decide) (by omega) ?_
  refine mm_iload_n rfl rfl ?_
  refine mm_bipush (v := nI 15) rfl (by decide) ?_
  refine mm_icmp_leN (tgt := 12) rfl (by decide) (by omega) (by omega) (fun h7 => ?_) (fun h7 => ?_)
  · refine mm_aload_n rfl rfl ?_
    refine mm_iload_n rfl rfl ?_
    refine mm_isV1 (M2 := qR_resolve) wd_665 qR_resolve_k (by decide) hs rfl (by decide) (Nat.le_of_ble_eq_true rfl) (by decide) (by decide) rfl (by decide) ?_
    refine mm_istore_n rfl (by decide) ?_
    refine mm_iload_n rfl rfl ?_
    refine mm_bipush (v := nI 21) rfl (by decide) ?_
    refine mm_icmp_ne (tgt := 32) rfl (by decide) (fun h21 => ?_) (fun h21 => ?_)
    · exact absurd hc h21
    · refine mm_aload_n rfl rfl ?_
      refine mm_isV0 (M2 := qR_play) wd_661 qR_play_k (by decide) h rfl (by decide) (Nat.le_of_ble_eq_true rfl) (by decide) (by decide) rfl (by decide) ?_
      refine mm_istore_n rfl (by decide) ?_
      refine mm_goto (tgt := 48) rfl (by decide) ?_
      refine mm_iload_n rfl rfl ?_
      refine mm_if_lt (tgt := 57) rfl (by decide) (fun h49 => ?_) (fun h49 => ?_)
      · exact absurd h49 hr
      · refine mm_aload_n rfl rfl ?_
        refine mm_iload_n rfl rfl ?_
        refine mm_isV1 (M2 := qR_jot) wd_653 qR_jot_k (by decide) hj rfl (by decide) (Nat.le_of_ble_eq_true rfl) (by decide) (by decide) rfl (by decide) ?_
        refine mm_iload_n rfl rfl ?_
        refine mm_ireturn rfl rfl rfl (by decide) (by decide) ?_
        exact ⟨rfl, rfl, rfl, rfl⟩
  · exact absurd h7 (by omega)
set_option maxRecDepth 100000 in
set_option maxHeartbeats 4000000 in
theorem sR_pressP0 {E : mm_E} {G : mm_G} {J : mm_J} {x : Nat} (hx : x ≤ 15) {cal : Int32} {J1 : mm_J} (hs : mm_Ret E qR_resolve [.ref 69, .int (nI x)] 86 J G (some (.int cal)) 86 J1 G) {k : Nat} (hk : k < 21) (hc : cal = nI k) {r : Int32} {J2 : mm_J} (h : mm_Ret E qR_perform [.ref 69, .int cal] 86 J1 G (some (.int r)) 86 J2 G) (hr : r < 0) : mm_Ret E qR_press [.ref 69, .int (nI x)] 86 J G (some (.int r)) 86 J2 G := by
  refine mm_Met.of qR_press_ok (by decide) (mm_cats rfl) (Nat.le_of_ble_eq_true rfl) ?_
  refine mm_iload_n rfl rfl ?_
  refine mm_if_ltN (tgt := 10) rfl (by decide) (by omega) ?_
  refine mm_iload_n rfl rfl ?_
  refine mm_bipush (v := nI 15) rfl (by decide) ?_
  refine mm_icmp_leN (tgt := 12) rfl (by decide) (by omega) (by omega) (fun h7 => ?_) (fun h7 => ?_)
  · refine mm_aload_n rfl rfl ?_
    refine mm_iload_n rfl rfl ?_
    refine mm_isV1 (M2 := qR_resolve) wd_665 qR_resolve_k (by decide) hs rfl (by decide) (Nat.le_of_ble_eq_true rfl) (by decide) (by decide) rfl (by decide) ?_
    refine mm_istore_n rfl (by decide) ?_
    refine mm_iload_n rfl rfl ?_
    refine mm_bipush (v := nI 21) rfl (by decide) ?_
    refine mm_icmp_ne (tgt := 32) rfl (by decide) (fun h21 => ?_) (fun h21 => ?_)
    · refine mm_iload_n rfl rfl ?_
      refine mm_if_lt (tgt := 48) rfl (by decide) (fun h33 => ?_) (fun h33 => ?_)
      · exact absurd h33 (by rw [hc]; exact nI_pos (by omega))
      · refine mm_iload_n rfl rfl ?_
        refine mm_bipush (v := nI 21) rfl (by decide) ?_
        refine mm_icmp_ge (tgt := 48) rfl (by decide) (fun h39 => ?_) (fun h39 => ?_)
        · exact absurd h39 (by rw [hc]; exact nI_ge hk (by decide))
        · refine mm_aload_n rfl rfl ?_
          refine mm_iload_n rfl rfl ?_
          refine mm_isV1 (M2 := qR_perform) wd_669 qR_perform_k (by decide) h rfl (by decide) (Nat.le_of_ble_eq_true rfl) (by decide) (by decide) rfl (by decide) ?_
          refine mm_istore_n rfl (by decide) ?_
          refine mm_iload_n rfl rfl ?_
          refine mm_if_lt (tgt := 57) rfl (by decide) (fun h49 => ?_) (fun h49 => ?_)
          · refine mm_iload_n rfl rfl ?_
            refine mm_ireturn rfl rfl rfl (by decide) (by decide) ?_
            exact ⟨rfl, rfl, rfl, rfl⟩
          · exact absurd hr h49
    · exact absurd ((nI_eq (by omega) (by decide)).mp (hc.symm.trans h21)) (by omega)
  · exact absurd h7 (by omega)
set_option maxRecDepth 100000 in
set_option maxHeartbeats 4000000 in
theorem sR_pressP1 {E : mm_E} {G : mm_G} {J : mm_J} {x : Nat} (hx : x ≤ 15) {cal : Int32} {J1 : mm_J} (hs : mm_Ret E qR_resolve [.ref 69, .int (nI x)] 86 J G (some (.int cal)) 86 J1 G) {k : Nat} (hk : k < 21) (hc : cal = nI k) {r : Int32} {J2 : mm_J} (h : mm_Ret E qR_perform [.ref 69, .int cal] 86 J1 G (some (.int r)) 86 J2 G) (hr : ¬ r < 0) {J3 : mm_J} (hj : mm_Ret E qR_jot [.ref 69, .int (nI x)] 86 J2 G none 86 J3 G) : mm_Ret E qR_press [.ref 69, .int (nI x)] 86 J G (some (.int r)) 86 J3 G := by
  refine mm_Met.of qR_press_ok (by decide) (mm_cats rfl) (Nat.le_of_ble_eq_true rfl) ?_
  refine mm_iload_n rfl rfl ?_
  refine mm_if_ltN (tgt := 10) rfl (by decide) (by omega) ?_
  refine mm_iload_n rfl rfl ?_
  refine mm_bipush (v := nI 15) rfl (by decide) ?_
  refine mm_icmp_leN (tgt := 12) rfl (by decide) (by omega) (by omega) (fun h7 => ?_) (fun h7 => ?_)
  · refine mm_aload_n rfl rfl ?_
    refine mm_iload_n rfl rfl ?_
    refine mm_isV1 (M2 := qR_resolve) wd_665 qR_resolve_k (by decide) hs rfl (by decide) (Nat.le_of_ble_eq_true rfl) (by decide) (by decide) rfl (by decide) ?_
    refine mm_istore_n rfl (by decide) ?_
    refine mm_iload_n rfl rfl ?_
    refine mm_bipush (v := nI 21) rfl (by decide) ?_
    refine mm_icmp_ne (tgt := 32) rfl (by decide) (fun h21 => ?_) (fun h21 => ?_)
    · refine mm_iload_n rfl rfl ?_
      refine mm_if_lt (tgt := 48) rfl (by decide) (fun h33 => ?_) (fun h33 => ?_)
      · exact absurd h33 (by rw [hc]; exact nI_pos (by omega))
      · refine mm_iload_n rfl rfl ?_
        refine mm_bipush (v := nI 21) rfl (by decide) ?_
        refine mm_icmp_ge (tgt := 48) rfl (by decide) (fun h39 => ?_) (fun h39 => ?_)
        · exact absurd h39 (by rw [hc]; exact nI_ge hk (by decide))
        · refine mm_aload_n rfl rfl ?_
          refine mm_iload_n rfl rfl ?_
          refine mm_isV1 (M2 := qR_perform) wd_669 qR_perform_k (by decide) h rfl (by decide) (Nat.le_of_ble_eq_true rfl) (by decide) (by decide) rfl (by decide) ?_
          refine mm_istore_n rfl (by decide) ?_
          refine mm_iload_n rfl rfl ?_
          refine mm_if_lt (tgt := 57) rfl (by decide) (fun h49 => ?_) (fun h49 => ?_)
          · exact absurd h49 hr
          · refine mm_aload_n rfl rfl ?_
            refine mm_iload_n rfl rfl ?_
            refine mm_isV1 (M2 := qR_jot) wd_653 qR_jot_k (by decide) hj rfl (by decide) (Nat.le_of_ble_eq_true rfl) (by decide) (by decide) rfl (by decide) ?_
            refine mm_iload_n rfl rfl ?_
            refine mm_ireturn rfl rfl rfl (by decide) (by decide) ?_
            exact ⟨rfl, rfl, rfl, rfl⟩
    · exact absurd ((nI_eq (by omega) (by decide)).mp (hc.symm.trans h21)) (by omega)
  · exact absurd h7 (by omega)
set_option maxRecDepth 100000 in
set_option maxHeartbeats 4000000 in
theorem sR_pressN0 {E : mm_E} {G : mm_G} {J : mm_J} {x : Nat} (hx : x ≤ 15) {cal : Int32} {J1 : mm_J} (hs : mm_Ret E qR_resolve [.ref 69, .int (nI x)] 86 J G (some (.int cal)) 86 J1 G) (hc : cal < 0 ∨ nI 21 < cal) (hr : cal < 0) : mm_Ret E qR_press [.ref 69, .int (nI x)] 86 J G (some (.int cal)) 86 J1 G := by
  refine mm_Met.of qR_press_ok (by decide) (mm_cats rfl) (Nat.le_of_ble_eq_true rfl) ?_
  refine mm_iload_n rfl rfl ?_
  refine mm_if_ltN (tgt := 10) rfl (by decide) (by omega) ?_
  refine mm_iload_n rfl rfl ?_
  refine mm_bipush (v := nI 15) rfl (by decide) ?_
  refine mm_icmp_leN (tgt := 12) rfl (by decide) (by omega) (by omega) (fun h7 => ?_) (fun h7 => ?_)
  · refine mm_aload_n rfl rfl ?_
    refine mm_iload_n rfl rfl ?_
    refine mm_isV1 (M2 := qR_resolve) wd_665 qR_resolve_k (by decide) hs rfl (by decide) (Nat.le_of_ble_eq_true rfl) (by decide) (by decide) rfl (by decide) ?_
    refine mm_istore_n rfl (by decide) ?_
    refine mm_iload_n rfl rfl ?_
    refine mm_bipush (v := nI 21) rfl (by decide) ?_
    refine mm_icmp_ne (tgt := 32) rfl (by decide) (fun h21 => ?_) (fun h21 => ?_)
    · refine mm_iload_n rfl rfl ?_
      refine mm_if_lt (tgt := 48) rfl (by decide) (fun h33 => ?_) (fun h33 => ?_)
      · refine mm_iload_n rfl rfl ?_
        refine mm_if_lt (tgt := 57) rfl (by decide) (fun h49 => ?_) (fun h49 => ?_)
        · refine mm_iload_n rfl rfl ?_
          refine mm_ireturn rfl rfl rfl (by decide) (by decide) ?_
          exact ⟨rfl, rfl, rfl, rfl⟩
        · exact absurd hr h49
      · refine mm_iload_n rfl rfl ?_
        refine mm_bipush (v := nI 21) rfl (by decide) ?_
        refine mm_icmp_ge (tgt := 48) rfl (by decide) (fun h39 => ?_) (fun h39 => ?_)
        · refine mm_iload_n rfl rfl ?_
          refine mm_if_lt (tgt := 57) rfl (by decide) (fun h49 => ?_) (fun h49 => ?_)
          · refine mm_iload_n rfl rfl ?_
            refine mm_ireturn rfl rfl rfl (by decide) (by decide) ?_
            exact ⟨rfl, rfl, rfl, rfl⟩
          · exact absurd hr h49
        · exact hc.elim (fun e => absurd e h33) (fun e => absurd (Int32.le_of_lt e) h39)
    · exact hc.elim (fun e => absurd (h21 ▸ e) (by decide)) (fun e => absurd (h21 ▸ e) (by decide))
  · exact absurd h7 (by omega)
set_option maxRecDepth 100000 in
set_option maxHeartbeats 4000000 in
theorem sR_pressN1 {E : mm_E} {G : mm_G} {J : mm_J} {x : Nat} (hx : x ≤ 15) {cal : Int32} {J1 : mm_J} (hs : mm_Ret E qR_resolve [.ref 69, .int (nI x)] 86 J G (some (.int cal)) 86 J1 G) (hc : cal < 0 ∨ nI 21 < cal) (hr : ¬ cal < 0) {J3 : mm_J} (hj : mm_Ret E qR_jot [.ref 69, .int (nI x)] 86 J1 G none 86 J3 G) : mm_Ret E qR_press [.ref 69, .int (nI x)] 86 J G (some (.int cal)) 86 J3 G := by
  refine mm_Met.of qR_press_ok (by decide) (mm_cats rfl) (Nat.le_of_ble_eq_true rfl) ?_
  refine mm_iload_n rfl rfl ?_
  refine mm_if_ltN (tgt := 10) rfl (by decide) (by omega) ?_
  refine mm_iload_n rfl rfl ?_
  refine mm_bipush (v := nI 15) rfl (by decide) ?_
  refine mm_icmp_leN (tgt := 12) rfl (by decide) (by omega) (by omega) (fun h7 => ?_) (fun h7 => ?_)
  · refine mm_aload_n rfl rfl ?_
    refine mm_iload_n rfl rfl ?_
    refine mm_isV1 (M2 := qR_resolve) wd_665 qR_resolve_k (by decide) hs rfl (by decide) (Nat.le_of_ble_eq_true rfl) (by decide) (by decide) rfl (by decide) ?_
    refine mm_istore_n rfl (by decide) ?_
    refine mm_iload_n rfl rfl ?_
    refine mm_bipush (v := nI 21) rfl (by decide) ?_
    refine mm_icmp_ne (tgt := 32) rfl (by decide) (fun h21 => ?_) (fun h21 => ?_)
    · refine mm_iload_n rfl rfl ?_
      refine mm_if_lt (tgt := 48) rfl (by decide) (fun h33 => ?_) (fun h33 => ?_)
      · refine mm_iload_n rfl rfl ?_
        refine mm_if_lt (tgt := 57) rfl (by decide) (fun h49 => ?_) (fun h49 => ?_)
        · exact absurd h49 hr
        · refine mm_aload_n rfl rfl ?_
          refine mm_iload_n rfl rfl ?_
          refine mm_isV1 (M2 := qR_jot) wd_653 qR_jot_k (by decide) hj rfl (by decide) (Nat.le_of_ble_eq_true rfl) (by decide) (by decide) rfl (by decide) ?_
          refine mm_iload_n rfl rfl ?_
          refine mm_ireturn rfl rfl rfl (by decide) (by decide) ?_
          exact ⟨rfl, rfl, rfl, rfl⟩
      · refine mm_iload_n rfl rfl ?_
        refine mm_bipush (v := nI 21) rfl (by decide) ?_
        refine mm_icmp_ge (tgt := 48) rfl (by decide) (fun h39 => ?_) (fun h39 => ?_)
        · refine mm_iload_n rfl rfl ?_
          refine mm_if_lt (tgt := 57) rfl (by decide) (fun h49 => ?_) (fun h49 => ?_)
          · exact absurd h49 hr
          · refine mm_aload_n rfl rfl ?_
            refine mm_iload_n rfl rfl ?_
            refine mm_isV1 (M2 := qR_jot) wd_653 qR_jot_k (by decide) hj rfl (by decide) (Nat.le_of_ble_eq_true rfl) (by decide) (by decide) rfl (by decide) ?_
            refine mm_iload_n rfl rfl ?_
            refine mm_ireturn rfl rfl rfl (by decide) (by decide) ?_
            exact ⟨rfl, rfl, rfl, rfl⟩
        · exact hc.elim (fun e => absurd e h33) (fun e => absurd (Int32.le_of_lt e) h39)
    · exact hc.elim (fun e => absurd (h21 ▸ e) (by decide)) (fun e => absurd (h21 ▸ e) (by decide))
  · exact absurd h7 (by omega)
set_option maxRecDepth 100000 in
set_option maxHeartbeats 4000000 in
theorem sR_argument0 {E : mm_E} {G : mm_G} {J : mm_J} {x : Int32} (h : x < nI 1 ∨ nI 9 < x) : mm_Ret E qR_argument [.ref 69, .int x] 86 J G (some (.int (-1))) 86 J G := by
  refine mm_Met.of qR_argument_ok (by decide) (mm_cats rfl) (Nat.le_of_ble_eq_true rfl) ?_
  refine mm_iload_n rfl rfl ?_
  refine mm_iconst (v := nI 1) rfl (by decide) ?_
  refine mm_icmp_lt (tgt := 11) rfl (by decide) (fun h2 => ?_) (fun h2 => ?_)
  · refine mm_iconst (v := -1) rfl (by decide) ?_
    refine mm_ireturn rfl rfl rfl (by decide) (by decide) ?_
    exact ⟨rfl, rfl, rfl, rfl⟩
  · refine mm_iload_n rfl rfl ?_
    refine mm_bipush (v := nI 9) rfl (by decide) ?_
    refine mm_icmp_le (tgt := 13) rfl (by decide) (fun h8 => ?_) (fun h8 => ?_)
    · exact h.elim (fun q => absurd q h2) (fun q => absurd h8 (Int32.not_le.mpr q))
    · refine mm_iconst (v := -1) rfl (by decide) ?_
      refine mm_ireturn rfl rfl rfl (by decide) (by decide) ?_
      exact ⟨rfl, rfl, rfl, rfl⟩
set_option maxRecDepth 100000 in
set_option maxHeartbeats 4000000 in
theorem sR_argument1 {E : mm_E} {G : mm_G} {J : mm_J} {x : Nat} (h1 : 1 ≤ x) (h9 : x ≤ 9) : mm_Ret E qR_argument [.ref 69, .int (nI x)] 86 J G (some (.int (nI 0))) 86 (mm_set J 69 7 (nI x)) G := by
  refine mm_Met.of qR_argument_ok (by decide) (mm_cats rfl) (Nat.le_of_ble_eq_true rfl) ?_
  refine mm_iload_n rfl rfl ?_
  refine mm_iconst (v := nI 1) rfl (by decide) ?_
  refine mm_icmp_ltN (tgt := 11) rfl (by decide) (by omega) (by omega) (fun h2 => ?_) (fun h2 => ?_)
  · exact absurd h2 (by omega)
  · refine mm_iload_n rfl rfl ?_
    refine mm_bipush (v := nI 9) rfl (by decide) ?_
    refine mm_icmp_leN (tgt := 13) rfl (by decide) (by omega) (by omega) (fun h8 => ?_) (fun h8 => ?_)
    · refine mm_aload_n rfl rfl ?_
      refine mm_iload_n rfl rfl ?_
      refine mm_putI rfl rfl rfl (by decide) rfl (Or.inl rfl) rfl rfl ?_
      refine mm_iconst (v := nI 0) rfl (by decide) ?_
      refine mm_ireturn rfl rfl rfl (by decide) (by decide) ?_
      exact ⟨rfl, rfl, rfl, rfl⟩
    · exact absurd h8 (by omega)
set_option maxRecDepth 100000 in
set_option maxHeartbeats 4000000 in
theorem sR_macro0 {E : mm_E} {G : mm_G} {J : mm_J} {rc : Nat} (hr : J 69 32 = nI rc) (hr2 : rc < 2) : mm_Ret E qR_macro [.ref 69, .int (nI rc)] 86 J G (some (.int (-1))) 86 J G := by
  refine mm_Met.of qR_macro_ok (by decide) (mm_cats rfl) (Nat.le_of_ble_eq_true rfl) ?_
  refine mm_iload_n rfl rfl ?_
  refine mm_aload_n rfl rfl ?_
  refine mm_getI (x := nI rc) rfl rfl rfl (by decide) rfl hr ?_
  refine mm_icmp_neN (tgt := 10) rfl (by decide) (by omega) (by omega) (fun h5 => ?_) (fun h5 => ?_)
  · exact absurd rfl h5
  · refine mm_iconst (v := -1) rfl (by decide) ?_
    refine mm_ireturn rfl rfl rfl (by decide) (by decide) ?_
    exact ⟨rfl, rfl, rfl, rfl⟩
set_option maxRecDepth 100000 in
set_option maxHeartbeats 4000000 in
theorem sR_macro1 {E : mm_E} {G : mm_G} {J : mm_J} (hr : J 69 32 = nI 0) : mm_Ret E qR_macro [.ref 69, .int (nI 1)] 86 J G (some (.int (nI 0))) 86 (mm_set (mm_set J 69 32 (nI 1)) 69 31 (nI 0)) G := by
  refine mm_Met.of qR_macro_ok (by decide) (mm_cats rfl) (Nat.le_of_ble_eq_true rfl) ?_
  refine mm_iload_n rfl rfl ?_
  refine mm_aload_n rfl rfl ?_
  refine mm_getI (x := nI 0) rfl rfl rfl (by decide) rfl hr ?_
  refine mm_icmp_neN (tgt := 10) rfl (by decide) (by decide) (by decide) (fun _ => ?_) (fun h => absurd h (by decide))
  refine mm_aload_n rfl rfl ?_
  refine mm_iload_n rfl rfl ?_
  refine mm_putI rfl rfl rfl (by decide) rfl (Or.inl rfl) rfl rfl ?_
  refine mm_iload_n rfl rfl ?_
  refine mm_if_eqN (tgt := 24) rfl (by decide) (by decide) (fun h => absurd h (by decide)) (fun _ => ?_)
  refine mm_aload_n rfl rfl ?_
  refine mm_iconst (v := nI 0) rfl (by decide) ?_
  refine mm_putI rfl rfl rfl (by decide) rfl (Or.inl rfl) rfl rfl ?_
  refine mm_iload_n rfl rfl ?_
  refine mm_if_eqN (tgt := 32) rfl (by decide) (by decide) (fun h => absurd h (by decide)) (fun _ => ?_)
  refine mm_iconst (v := nI 0) rfl (by decide) ?_
  refine mm_goto (tgt := 36) rfl (by decide) ?_
  refine mm_ireturn rfl rfl rfl (by decide) (by decide) ?_
  exact ⟨rfl, rfl, rfl, rfl⟩
set_option maxRecDepth 100000 in
set_option maxHeartbeats 4000000 in
theorem sR_macro2 {E : mm_E} {G : mm_G} {J : mm_J} (hr : J 69 32 = nI 1) : mm_Ret E qR_macro [.ref 69, .int (nI 0)] 86 J G (some (.int (J 69 31))) 86 (mm_set J 69 32 (nI 0)) G := by
  refine mm_Met.of qR_macro_ok (by decide) (mm_cats rfl) (Nat.le_of_ble_eq_true rfl) ?_
  refine mm_iload_n rfl rfl ?_
  refine mm_aload_n rfl rfl ?_
  refine mm_getI (x := nI 1) rfl rfl rfl (by decide) rfl hr ?_
  refine mm_icmp_neN (tgt := 10) rfl (by decide) (by decide) (by decide) (fun _ => ?_) (fun h => absurd h (by decide))
  refine mm_aload_n rfl rfl ?_
  refine mm_iload_n rfl rfl ?_
  refine mm_putI rfl rfl rfl (by decide) rfl (Or.inl rfl) rfl rfl ?_
  refine mm_iload_n rfl rfl ?_
  refine mm_if_eqN (tgt := 24) rfl (by decide) (by decide) (fun _ => ?_) (fun h => absurd h (by decide))
  refine mm_iload_n rfl rfl ?_
  refine mm_if_eqN (tgt := 32) rfl (by decide) (by decide) (fun _ => ?_) (fun h => absurd h (by decide))
  refine mm_aload_n rfl rfl ?_
  refine mm_getI rfl rfl rfl (by decide) rfl rfl ?_
  refine mm_ireturn rfl rfl rfl (by decide) (by decide) ?_
  exact ⟨rfl, rfl, rfl, rfl⟩
set_option maxRecDepth 100000 in
set_option maxHeartbeats 4000000 in
theorem sR_marker0 {E : mm_E} {G : mm_G} {J : mm_J} {x fo : Int32} (h : x < 0 ∨ nI 3 < x) : mm_Ret E qR_marker [.ref 69, .int x, .int fo] 86 J G (some (.int (-1))) 86 J G := by
  refine mm_Met.of qR_marker_ok (by decide) (mm_cats rfl) (Nat.le_of_ble_eq_true rfl) ?_
  refine mm_iload_n rfl rfl ?_
  refine mm_if_lt (tgt := 9) rfl (by decide) (fun h1 => ?_) (fun h1 => ?_)
  · refine mm_iconst (v := -1) rfl (by decide) ?_
    refine mm_ireturn rfl rfl rfl (by decide) (by decide) ?_
    exact ⟨rfl, rfl, rfl, rfl⟩
  · refine mm_iload_n rfl rfl ?_
    refine mm_iconst (v := nI 3) rfl (by decide) ?_
    refine mm_icmp_le (tgt := 11) rfl (by decide) (fun h6 => ?_) (fun h6 => ?_)
    · exact h.elim (fun q => absurd q h1) (fun q => absurd h6 (Int32.not_le.mpr q))
    · refine mm_iconst (v := -1) rfl (by decide) ?_
      refine mm_ireturn rfl rfl rfl (by decide) (by decide) ?_
      exact ⟨rfl, rfl, rfl, rfl⟩
set_option maxRecDepth 100000 in
set_option maxHeartbeats 4000000 in
theorem sR_marker1 {E : mm_E} {G : mm_G} {J : mm_J} (hG : mm_GI G) {x : Nat} {fo : Int32} (h : x < 4) (hf : narrow .boolean (.int fo) = .int fo) : mm_Ret E qR_marker [.ref 69, .int (nI x), .int fo] 86 J G (some (.int (nI 0))) 86 (mm_set (mm_set J 73 x (J 69 5)) 74 x fo) G := by
  refine mm_Met.of qR_marker_ok (by decide) (mm_cats rfl) (Nat.le_of_ble_eq_true rfl) ?_
  refine mm_iload_n rfl rfl ?_
  refine mm_if_ltN (tgt := 9) rfl (by decide) (by omega) ?_
  refine mm_iload_n rfl rfl ?_
  refine mm_iconst (v := nI 3) rfl (by decide) ?_
  refine mm_icmp_leN (tgt := 11) rfl (by decide) (by omega) (by omega) (fun h6 => ?_) (fun h6 => ?_)
  · refine mm_aload_n rfl rfl ?_
    refine mm_getR rfl rfl rfl (by decide) rfl (mm_gi hG 69 10 73 (by decide)) ?_
    refine mm_iload_n rfl rfl ?_
    refine mm_aload_n rfl rfl ?_
    refine mm_getI rfl rfl rfl (by decide) rfl rfl ?_
    refine mm_wrN rfl (by decide) rfl (by decide) (by omega) (by decide) rfl ?_
    refine mm_aload_n rfl rfl ?_
    refine mm_getR rfl rfl rfl (by decide) rfl (mm_gi hG 69 11 74 (by decide)) ?_
    refine mm_iload_n rfl rfl ?_
    refine mm_iload_n rfl rfl ?_
    refine mm_wzN rfl (by decide) rfl (by decide) (by omega) (by decide) hf rfl ?_
    refine mm_iconst (v := nI 0) rfl (by decide) ?_
    refine mm_ireturn rfl rfl rfl (by decide) (by decide) ?_
    exact ⟨rfl, rfl, rfl, rfl⟩
  · exact absurd h6 (by omega)
set_option maxRecDepth 100000 in
set_option maxHeartbeats 4000000 in
theorem sR_frame0 {E : mm_E} {G : mm_G} {J : mm_J} {c r : Int32} (h : ¬ (nI 4 ≤ c ∧ c ≤ nI 20 ∧ nI 2 ≤ r ∧ r ≤ nI 6)) : mm_Ret E qR_frame [.ref 69, .int c, .int r] 86 J G (some (.int (-1))) 86 J G := by
  refine mm_Met.of qR_frame_ok (by decide) (mm_cats rfl) (Nat.le_of_ble_eq_true rfl) ?_
  refine mm_iload_n rfl rfl ?_
  refine mm_iconst (v := nI 4) rfl (by decide) ?_
  refine mm_icmp_lt (tgt := 22) rfl (by decide) (fun h2 => ?_) (fun h2 => ?_)
  · refine mm_iconst (v := -1) rfl (by decide) ?_
    refine mm_ireturn rfl rfl rfl (by decide) (by decide) ?_
    exact ⟨rfl, rfl, rfl, rfl⟩
  · refine mm_iload_n rfl rfl ?_
    refine mm_bipush (v := nI 20) rfl (by decide) ?_
    refine mm_icmp_gt (tgt := 22) rfl (by decide) (fun h8 => ?_) (fun h8 => ?_)
    · refine mm_iconst (v := -1) rfl (by decide) ?_
      refine mm_ireturn rfl rfl rfl (by decide) (by decide) ?_
      exact ⟨rfl, rfl, rfl, rfl⟩
    · refine mm_iload_n rfl rfl ?_
      refine mm_iconst (v := nI 2) rfl (by decide) ?_
      refine mm_icmp_lt (tgt := 22) rfl (by decide) (fun h13 => ?_) (fun h13 => ?_)
      · refine mm_iconst (v := -1) rfl (by decide) ?_
        refine mm_ireturn rfl rfl rfl (by decide) (by decide) ?_
        exact ⟨rfl, rfl, rfl, rfl⟩
      · refine mm_iload_n rfl rfl ?_
        refine mm_bipush (v := nI 6) rfl (by decide) ?_
        refine mm_icmp_le (tgt := 24) rfl (by decide) (fun h19 => ?_) (fun h19 => ?_)
        · exact absurd ⟨Int32.not_lt.mp h2, Int32.not_lt.mp h8, Int32.not_lt.mp h13, h19⟩ h
        · refine mm_iconst (v := -1) rfl (by decide) ?_
          refine mm_ireturn rfl rfl rfl (by decide) (by decide) ?_
          exact ⟨rfl, rfl, rfl, rfl⟩
set_option maxRecDepth 100000 in
set_option maxHeartbeats 4000000 in
theorem sR_frame1 {E : mm_E} {G : mm_G} {J : mm_J} {c r : Nat} (h1 : 4 ≤ c) (h2 : c ≤ 20) (h3 : 2 ≤ r) (h4 : r ≤ 6) : mm_Ret E qR_frame [.ref 69, .int (nI c), .int (nI r)] 86 J G (some (.int (nI 0))) 86 (mm_set (mm_set (mm_set J 69 33 (nI c)) 69 34 (nI r)) 69 35 (nI 0)) G := by
  refine mm_Met.of qR_frame_ok (by decide) (mm_cats rfl) (Nat.le_of_ble_eq_true rfl) ?_
  refine mm_iload_n rfl rfl ?_
  refine mm_iconst (v := nI 4) rfl (by decide) ?_
  refine mm_icmp_ltN (tgt := 22) rfl (by decide) (by omega) (by omega) (fun q2 => ?_) (fun q2 => ?_)
  · exact absurd q2 (by omega)
  · refine mm_iload_n rfl rfl ?_
    refine mm_bipush (v := nI 20) rfl (by decide) ?_
    refine mm_icmp_gtN (tgt := 22) rfl (by decide) (by omega) (by omega) (fun h8 => ?_) (fun h8 => ?_)
    · exact absurd h8 (by omega)
    · refine mm_iload_n rfl rfl ?_
      refine mm_iconst (v := nI 2) rfl (by decide) ?_
      refine mm_icmp_ltN (tgt := 22) rfl (by decide) (by omega) (by omega) (fun h13 => ?_) (fun h13 => ?_)
      · exact absurd h13 (by omega)
      · refine mm_iload_n rfl rfl ?_
        refine mm_bipush (v := nI 6) rfl (by decide) ?_
        refine mm_icmp_leN (tgt := 24) rfl (by decide) (by omega) (by omega) (fun h19 => ?_) (fun h19 => ?_)
        · refine mm_aload_n rfl rfl ?_
          refine mm_iload_n rfl rfl ?_
          refine mm_putI rfl rfl rfl (by decide) rfl (Or.inl rfl) rfl rfl ?_
          refine mm_aload_n rfl rfl ?_
          refine mm_iload_n rfl rfl ?_
          refine mm_putI rfl rfl rfl (by decide) rfl (Or.inl rfl) rfl rfl ?_
          refine mm_aload_n rfl rfl ?_
          refine mm_iconst (v := nI 0) rfl (by decide) ?_
          refine mm_putI rfl rfl rfl (by decide) rfl (Or.inl rfl) rfl rfl ?_
          refine mm_iconst (v := nI 0) rfl (by decide) ?_
          refine mm_ireturn rfl rfl rfl (by decide) (by decide) ?_
          exact ⟨rfl, rfl, rfl, rfl⟩
        · exact absurd h19 (by omega)
set_option maxRecDepth 100000 in
set_option maxHeartbeats 4000000 in
theorem sR_character0 {E : mm_E} {G : mm_G} {J : mm_J} {n : Nat} (hn : J 69 3 = nI n) (hn2 : n ≤ 100) {x : Int32} (h : x < 0 ∨ nI n ≤ x) : mm_Ret E qR_character [.ref 69, .int x] 86 J G (some (.int (-1))) 86 J G := by
  refine mm_Met.of qR_character_ok (by decide) (mm_cats rfl) (Nat.le_of_ble_eq_true rfl) ?_
  refine mm_iload_n rfl rfl ?_
  refine mm_if_lt (tgt := 12) rfl (by decide) (fun h1 => ?_) (fun h1 => ?_)
  · refine mm_iconst (v := -1) rfl (by decide) ?_
    refine mm_goto (tgt := 22) rfl (by decide) ?_
    refine mm_ireturn rfl rfl rfl (by decide) (by decide) ?_
    exact ⟨rfl, rfl, rfl, rfl⟩
  · refine mm_iload_n rfl rfl ?_
    refine mm_aload_n rfl rfl ?_
    refine mm_getI (x := nI n) rfl rfl rfl (by decide) rfl hn ?_
    refine mm_icmp_lt (tgt := 16) rfl (by decide) (fun h9 => ?_) (fun h9 => ?_)
    · exact h.elim (fun q => absurd q h1) (fun q => absurd h9 (Int32.not_lt.mpr q))
    · refine mm_iconst (v := -1) rfl (by decide) ?_
      refine mm_goto (tgt := 22) rfl (by decide) ?_
      refine mm_ireturn rfl rfl rfl (by decide) (by decide) ?_
      exact ⟨rfl, rfl, rfl, rfl⟩
set_option maxRecDepth 100000 in
set_option maxHeartbeats 4000000 in
theorem sR_character1 {E : mm_E} {G : mm_G} {J : mm_J} (hG : mm_GI G) {n : Nat} (hn : J 69 3 = nI n) (hn2 : n ≤ 100) {x : Nat} (h : x < n) : mm_Ret E qR_character [.ref 69, .int (nI x)] 86 J G (some (.int (J 70 x))) 86 J G := by
  refine mm_Met.of qR_character_ok (by decide) (mm_cats rfl) (Nat.le_of_ble_eq_true rfl) ?_
  refine mm_iload_n rfl rfl ?_
  refine mm_if_ltN (tgt := 12) rfl (by decide) (by omega) ?_
  refine mm_iload_n rfl rfl ?_
  refine mm_aload_n rfl rfl ?_
  refine mm_getI (x := nI n) rfl rfl rfl (by decide) rfl hn ?_
  refine mm_icmp_ltN (tgt := 16) rfl (by decide) (by omega) (by omega) (fun h9 => ?_) (fun h9 => ?_)
  · refine mm_aload_n rfl rfl ?_
    refine mm_getR rfl rfl rfl (by decide) rfl (mm_gi hG 69 0 70 (by decide)) ?_
    refine mm_iload_n rfl rfl ?_
    refine mm_rdN rfl (by decide) rfl (by decide) (by omega) (by decide) rfl rfl ?_
    refine mm_ireturn rfl rfl rfl (by decide) (by decide) ?_
    exact ⟨rfl, rfl, rfl, rfl⟩
  · exact absurd h9 (by omega)
set_option maxRecDepth 100000 in
set_option maxHeartbeats 4000000 in
theorem sR_markerAt0 {E : mm_E} {G : mm_G} {J : mm_J} {x : Int32} (h : x < 0 ∨ nI 3 < x) : mm_Ret E qR_markerAt [.ref 69, .int x] 86 J G (some (.int (-1))) 86 J G := by
  refine mm_Met.of qR_markerAt_ok (by decide) (mm_cats rfl) (Nat.le_of_ble_eq_true rfl) ?_
  refine mm_iload_n rfl rfl ?_
  refine mm_if_lt (tgt := 9) rfl (by decide) (fun h1 => ?_) (fun h1 => ?_)
  · refine mm_iconst (v := -1) rfl (by decide) ?_
    refine mm_goto (tgt := 19) rfl (by decide) ?_
    refine mm_ireturn rfl rfl rfl (by decide) (by decide) ?_
    exact ⟨rfl, rfl, rfl, rfl⟩
  · refine mm_iload_n rfl rfl ?_
    refine mm_iconst (v := nI 3) rfl (by decide) ?_
    refine mm_icmp_le (tgt := 13) rfl (by decide) (fun h6 => ?_) (fun h6 => ?_)
    · exact h.elim (fun q => absurd q h1) (fun q => absurd h6 (Int32.not_le.mpr q))
    · refine mm_iconst (v := -1) rfl (by decide) ?_
      refine mm_goto (tgt := 19) rfl (by decide) ?_
      refine mm_ireturn rfl rfl rfl (by decide) (by decide) ?_
      exact ⟨rfl, rfl, rfl, rfl⟩
set_option maxRecDepth 100000 in
set_option maxHeartbeats 4000000 in
theorem sR_markerAt1 {E : mm_E} {G : mm_G} {J : mm_J} (hG : mm_GI G) {x : Nat} (h : x < 4) : mm_Ret E qR_markerAt [.ref 69, .int (nI x)] 86 J G (some (.int (J 73 x))) 86 J G := by
  refine mm_Met.of qR_markerAt_ok (by decide) (mm_cats rfl) (Nat.le_of_ble_eq_true rfl) ?_
  refine mm_iload_n rfl rfl ?_
  refine mm_if_ltN (tgt := 9) rfl (by decide) (by omega) ?_
  refine mm_iload_n rfl rfl ?_
  refine mm_iconst (v := nI 3) rfl (by decide) ?_
  refine mm_icmp_leN (tgt := 13) rfl (by decide) (by omega) (by omega) (fun h6 => ?_) (fun h6 => ?_)
  · refine mm_aload_n rfl rfl ?_
    refine mm_getR rfl rfl rfl (by decide) rfl (mm_gi hG 69 10 73 (by decide)) ?_
    refine mm_iload_n rfl rfl ?_
    refine mm_rdN rfl (by decide) rfl (by decide) (by omega) (by decide) rfl rfl ?_
    refine mm_ireturn rfl rfl rfl (by decide) (by decide) ?_
    exact ⟨rfl, rfl, rfl, rfl⟩
  · exact absurd h6 (by omega)
set_option maxRecDepth 100000 in
set_option maxHeartbeats 4000000 in
theorem sR_killed0 {E : mm_E} {G : mm_G} {J : mm_J} {c : Nat} (hc : J 69 14 = nI c) (hc2 : c ≤ 4) {x k : Int32} (h : x < 0 ∨ nI c ≤ x ∨ k < 0) : mm_Ret E qR_killed [.ref 69, .int x, .int k] 86 J G (some (.int (-1))) 86 J G := by
  refine mm_Met.of qR_killed_ok (by decide) (mm_cats rfl) (Nat.le_of_ble_eq_true rfl) ?_
  refine mm_iload_n rfl rfl ?_
  refine mm_if_lt (tgt := 16) rfl (by decide) (fun h1 => ?_) (fun h1 => ?_)
  · refine mm_iconst (v := -1) rfl (by decide) ?_
    refine mm_ireturn rfl rfl rfl (by decide) (by decide) ?_
    exact ⟨rfl, rfl, rfl, rfl⟩
  · refine mm_iload_n rfl rfl ?_
    refine mm_aload_n rfl rfl ?_
    refine mm_getI (x := nI c) rfl rfl rfl (by decide) rfl hc ?_
    refine mm_icmp_ge (tgt := 16) rfl (by decide) (fun h9 => ?_) (fun h9 => ?_)
    · refine mm_iconst (v := -1) rfl (by decide) ?_
      refine mm_ireturn rfl rfl rfl (by decide) (by decide) ?_
      exact ⟨rfl, rfl, rfl, rfl⟩
    · refine mm_iload_n rfl rfl ?_
      refine mm_if_ge (tgt := 18) rfl (by decide) (fun h13 => ?_) (fun h13 => ?_)
      · exact h.elim (fun q => absurd q h1) (fun q => q.elim (fun q => absurd q h9) (fun q => absurd h13 (Int32.not_le.mpr q)))
      · refine mm_iconst (v := -1) rfl (by decide) ?_
        refine mm_ireturn rfl rfl rfl (by decide) (by decide) ?_
        exact ⟨rfl, rfl, rfl, rfl⟩
set_option maxRecDepth 100000 in
set_option maxHeartbeats 4000000 in
theorem sR_killed1 {E : mm_E} {G : mm_G} {J : mm_J} (hG : mm_GI G) {c x k l : Nat} (hc : J 69 14 = nI c) (hc2 : c ≤ 4) (h : x < c) (hl : J 76 x = nI l) (hl2 : l ≤ 100) (hk : k < l) : mm_Ret E qR_killed [.ref 69, .int (nI x), .int (nI k)] 86 J G (some (.int (J 75 (x * 100 + k)))) 86 J G := by
  refine mm_Met.of qR_killed_ok (by decide) (mm_cats rfl) (Nat.le_of_ble_eq_true rfl) ?_
  refine mm_iload_n rfl rfl ?_
  refine mm_if_ltN (tgt := 16) rfl (by decide) (by omega) ?_
  refine mm_iload_n rfl rfl ?_
  refine mm_aload_n rfl rfl ?_
  refine mm_getI (x := nI c) rfl rfl rfl (by decide) rfl hc ?_
  refine mm_icmp_geN (tgt := 16) rfl (by decide) (by omega) (by omega) (fun h9 => ?_) (fun h9 => ?_)
  · exact absurd h9 (by omega)
  · refine mm_iload_n rfl rfl ?_
    refine mm_if_geN (tgt := 18) rfl (by decide) (by omega) ?_
    refine mm_iload_n rfl rfl ?_
    refine mm_aload_n rfl rfl ?_
    refine mm_getR rfl rfl rfl (by decide) rfl (mm_gi hG 69 13 76 (by decide)) ?_
    refine mm_iload_n rfl rfl ?_
    refine mm_rdN rfl (by decide) rfl (by decide) (by omega) (by decide) rfl hl ?_
    refine mm_icmp_geN (tgt := 42) rfl (by decide) (by omega) (by omega) (fun h25 => ?_) (fun h25 => ?_)
    · exact absurd h25 (by omega)
    · refine mm_aload_n rfl rfl ?_
      refine mm_getR rfl rfl rfl (by decide) rfl (mm_gi hG 69 12 75 (by decide)) ?_
      refine mm_iload_n rfl rfl ?_
      refine mm_bipush (v := nI 100) rfl (by decide) ?_
      refine mm_imulN rfl ?_
      refine mm_iload_n rfl rfl ?_
      refine mm_iaddN rfl ?_
      refine mm_rdN rfl (by decide) rfl (by decide) (by omega) (by decide) rfl rfl ?_
      refine mm_goto (tgt := 43) rfl (by decide) ?_
      refine mm_ireturn rfl rfl rfl (by decide) (by decide) ?_
      exact ⟨rfl, rfl, rfl, rfl⟩
set_option maxRecDepth 100000 in
set_option maxHeartbeats 4000000 in
theorem sR_killed2 {E : mm_E} {G : mm_G} {J : mm_J} (hG : mm_GI G) {c x k l : Nat} (hc : J 69 14 = nI c) (hc2 : c ≤ 4) (h : x < c) (hl : J 76 x = nI l) (hl2 : l ≤ 100) (hk : l ≤ k) (hk2 : k < 2 ^ 31) : mm_Ret E qR_killed [.ref 69, .int (nI x), .int (nI k)] 86 J G (some (.int (nI 0))) 86 J G := by
  refine mm_Met.of qR_killed_ok (by decide) (mm_cats rfl) (Nat.le_of_ble_eq_true rfl) ?_
  refine mm_iload_n rfl rfl ?_
  refine mm_if_ltN (tgt := 16) rfl (by decide) (by omega) ?_
  refine mm_iload_n rfl rfl ?_
  refine mm_aload_n rfl rfl ?_
  refine mm_getI (x := nI c) rfl rfl rfl (by decide) rfl hc ?_
  refine mm_icmp_geN (tgt := 16) rfl (by decide) (by omega) (by omega) (fun h9 => ?_) (fun h9 => ?_)
  · exact absurd h9 (by omega)
  · refine mm_iload_n rfl rfl ?_
    refine mm_if_geN (tgt := 18) rfl (by decide) (by omega) ?_
    refine mm_iload_n rfl rfl ?_
    refine mm_aload_n rfl rfl ?_
    refine mm_getR rfl rfl rfl (by decide) rfl (mm_gi hG 69 13 76 (by decide)) ?_
    refine mm_iload_n rfl rfl ?_
    refine mm_rdN rfl (by decide) rfl (by decide) (by omega) (by decide) rfl hl ?_
    refine mm_icmp_geN (tgt := 42) rfl (by decide) (by omega) (by omega) (fun h25 => ?_) (fun h25 => ?_)
    · refine mm_iconst (v := nI 0) rfl (by decide) ?_
      refine mm_ireturn rfl rfl rfl (by decide) (by decide) ?_
      exact ⟨rfl, rfl, rfl, rfl⟩
    · exact absurd h25 (by omega)
