theorem ed_sm {q t : Nat} (hq : q < 2 ^ 30) (ht : t < 2 ^ 30) : (if nI q - nI t < nI 0 then nI 0 else nI q - nI t) = nI (q - t) := by
  by_cases h : t ≤ q
  · rw [pk_sub h, if_neg (nI_nlt (Nat.zero_le _) (by omega))]
  · rw [if_pos (by rw [nI_0]; exact pk_sneg ht (by omega))]
    congr 1
    omega
set_option maxRecDepth 100000 in
set_option maxHeartbeats 4000000 in
theorem sE_co0 {E : mm_E} {G : mm_G} {J : mm_J} (hG : mm_GI G) {n q t : Nat} (hn : J 2 1 = nI n) (hn2 : n ≤ 100) (hp : J 1 3 = nI q) (hq : q ≤ n) (ht : J 0 7 = nI t) (ht9 : t ≤ 9) {r : Int32} {J2 : mm_J} {G2 : mm_G} (h : mm_Ret E qE_moveTo [.ref 0, .int (nI (min (q + t) n))] 86 J G (some (.int r)) 86 J2 G2) : mm_Ret E qE_carryOut [.ref 0, .int (nI 0)] 86 J G (some (.int r)) 86 J2 G2 := by
  refine mm_Met.of qE_carryOut_ok (by decide) (mm_cats rfl) (Nat.le_of_ble_eq_true rfl) ?_
  refine mm_iload_n rfl rfl ?_
  refine mm_tableIn (off := 99) (tgt := 100) rfl (by decide) (by decide) rfl (by decide) ?_
  refine mm_aload_n rfl rfl ?_
  refine mm_aload_n rfl rfl ?_
  refine mm_getR rfl rfl rfl (by decide) rfl (mm_gi hG 0 0 1 (by decide)) ?_
  refine mm_getI (x := nI q) rfl rfl rfl (by decide) rfl hp ?_
  refine mm_aload_n rfl rfl ?_
  refine mm_getI (x := nI t) rfl rfl rfl (by decide) rfl ht ?_
  refine mm_iaddN rfl ?_
  refine mm_aload_n rfl rfl ?_
  refine mm_getR rfl rfl rfl (by decide) rfl (mm_gi hG 0 0 1 (by decide)) ?_
  refine mm_getR rfl rfl rfl (by decide) rfl (mm_gi hG 1 0 2 (by decide)) ?_
  refine mm_getI (x := nI n) rfl rfl rfl (by decide) rfl hn ?_
  refine mm_minN (by omega) (by omega) rfl wd_298 wd_299 wd_10 wd_300 (by decide) (Nat.le_of_ble_eq_true rfl) (by decide) (by decide) ?_
  refine mm_isV1 (M2 := qE_moveTo) wd_301 qE_moveTo_k (by decide) h rfl (by decide) (Nat.le_of_ble_eq_true rfl) (by decide) (by decide) rfl (by decide) ?_
  refine mm_ireturn rfl rfl rfl (by decide) (by decide) ?_
  exact ⟨rfl, rfl, rfl, rfl⟩
set_option maxRecDepth 100000 in
set_option maxHeartbeats 4000000 in
theorem sE_co1 {E : mm_E} {G : mm_G} {J : mm_J} (hG : mm_GI G) {n q t : Nat} (hn : J 2 1 = nI n) (hn2 : n ≤ 100) (hp : J 1 3 = nI q) (hq : q ≤ n) (ht : J 0 7 = nI t) (ht9 : t ≤ 9) {r : Int32} {J2 : mm_J} {G2 : mm_G} (h : mm_Ret E qE_moveTo [.ref 0, .int (nI (q - t))] 86 J G (some (.int r)) 86 J2 G2) : mm_Ret E qE_carryOut [.ref 0, .int (nI 1)] 86 J G (some (.int r)) 86 J2 G2 := by
  refine mm_Met.of qE_carryOut_ok (by decide) (mm_cats rfl) (Nat.le_of_ble_eq_true rfl) ?_
  refine mm_iload_n rfl rfl ?_
  refine mm_tableIn (off := 129) (tgt := 130) rfl (by decide) (by decide) rfl (by decide) ?_
  refine mm_aload_n rfl rfl ?_
  refine mm_aload_n rfl rfl ?_
  refine mm_getR rfl rfl rfl (by decide) rfl (mm_gi hG 0 0 1 (by decide)) ?_
  refine mm_getI (x := nI q) rfl rfl rfl (by decide) rfl hp ?_
  refine mm_aload_n rfl rfl ?_
  refine mm_getI (x := nI t) rfl rfl rfl (by decide) rfl ht ?_
  refine mm_isub rfl ?_
  refine mm_iconst (v := nI 0) rfl (by decide) ?_
  refine mm_max rfl wd_305 wd_306 wd_10 wd_307 (by decide) (Nat.le_of_ble_eq_true rfl) (by decide) (by decide) ?_
  rw [ed_sm (by omega) (by omega)]
  refine mm_isV1 (M2 := qE_moveTo) wd_301 qE_moveTo_k (by decide) h rfl (by decide) (Nat.le_of_ble_eq_true rfl) (by decide) (by decide) rfl (by decide) ?_
  refine mm_ireturn rfl rfl rfl (by decide) (by decide) ?_
  exact ⟨rfl, rfl, rfl, rfl⟩
set_option maxRecDepth 100000 in
set_option maxHeartbeats 4000000 in
theorem sE_co2 {E : mm_E} {G : mm_G} {J : mm_J} (hG : mm_GI G) {n q t : Nat} (hn : J 2 1 = nI n) (hn2 : n ≤ 100) (hp : J 1 3 = nI q) (hq : q ≤ n) (ht : J 0 7 = nI t) (ht9 : t ≤ 9) {r : Int32} {J2 : mm_J} {G2 : mm_G} (h : mm_Ret E qE_moveToGoal [.ref 0, .int (nI (ed_below (J 3) n t (ed_lb (J 3) q)))] 86 J G (some (.int r)) 86 J2 G2) : mm_Ret E qE_carryOut [.ref 0, .int (nI 2)] 86 J G (some (.int r)) 86 J2 G2 := by
  refine mm_Met.of qE_carryOut_ok (by decide) (mm_cats rfl) (Nat.le_of_ble_eq_true rfl) ?_
  refine mm_iload_n rfl rfl ?_
  refine mm_tableIn (off := 150) (tgt := 151) rfl (by decide) (by decide) rfl (by decide) ?_
  refine mm_aload_n rfl rfl ?_
  refine mm_aload_n rfl rfl ?_
  refine mm_getR rfl rfl rfl (by decide) rfl (mm_gi hG 0 0 1 (by decide)) ?_
  refine mm_aload_n rfl rfl ?_
  refine mm_getR rfl rfl rfl (by decide) rfl (mm_gi hG 0 0 1 (by decide)) ?_
  refine mm_getI (x := nI q) rfl rfl rfl (by decide) rfl hp ?_
  refine mm_aload_n rfl rfl ?_
  refine mm_getI (x := nI t) rfl rfl rfl (by decide) rfl ht ?_
  refine mm_isV2 (M2 := qT_beginningBelow) wd_308 qT_beginningBelow_k (by decide) (sT_beginningBelow hG hn hn2 ht9 hq) rfl (by decide) (Nat.le_of_ble_eq_true rfl) (by decide) (by decide) rfl (by decide) ?_
  refine mm_isV1 (M2 := qE_moveToGoal) wd_320 qE_moveToGoal_k (by decide) h rfl (by decide) (Nat.le_of_ble_eq_true rfl) (by decide) (by decide) rfl (by decide) ?_
  refine mm_ireturn rfl rfl rfl (by decide) (by decide) ?_
  exact ⟨rfl, rfl, rfl, rfl⟩
set_option maxRecDepth 100000 in
set_option maxHeartbeats 4000000 in
theorem sE_co3 {E : mm_E} {G : mm_G} {J : mm_J} (hG : mm_GI G) {n q t : Nat} (hn : J 2 1 = nI n) (hn2 : n ≤ 100) (hp : J 1 3 = nI q) (hq : q ≤ n) (ht : J 0 7 = nI t) (ht9 : t ≤ 9) {r : Int32} {J2 : mm_J} {G2 : mm_G} (h : mm_Ret E qE_moveToGoal [.ref 0, .int (nI (ed_above (J 3) t (ed_lb (J 3) q)))] 86 J G (some (.int r)) 86 J2 G2) : mm_Ret E qE_carryOut [.ref 0, .int (nI 3)] 86 J G (some (.int r)) 86 J2 G2 := by
  refine mm_Met.of qE_carryOut_ok (by decide) (mm_cats rfl) (Nat.le_of_ble_eq_true rfl) ?_
  refine mm_iload_n rfl rfl ?_
  refine mm_tableIn (off := 173) (tgt := 174) rfl (by decide) (by decide) rfl (by decide) ?_
  refine mm_aload_n rfl rfl ?_
  refine mm_aload_n rfl rfl ?_
  refine mm_getR rfl rfl rfl (by decide) rfl (mm_gi hG 0 0 1 (by decide)) ?_
  refine mm_aload_n rfl rfl ?_
  refine mm_getR rfl rfl rfl (by decide) rfl (mm_gi hG 0 0 1 (by decide)) ?_
  refine mm_getI (x := nI q) rfl rfl rfl (by decide) rfl hp ?_
  refine mm_aload_n rfl rfl ?_
  refine mm_getI (x := nI t) rfl rfl rfl (by decide) rfl ht ?_
  refine mm_isV2 (M2 := qT_beginningAbove) wd_326 qT_beginningAbove_k (by decide) (sT_beginningAbove hG ht9 (by omega)) rfl (by decide) (Nat.le_of_ble_eq_true rfl) (by decide) (by decide) rfl (by decide) ?_
  refine mm_isV1 (M2 := qE_moveToGoal) wd_320 qE_moveToGoal_k (by decide) h rfl (by decide) (Nat.le_of_ble_eq_true rfl) (by decide) (by decide) rfl (by decide) ?_
  refine mm_ireturn rfl rfl rfl (by decide) (by decide) ?_
  exact ⟨rfl, rfl, rfl, rfl⟩
set_option maxRecDepth 100000 in
set_option maxHeartbeats 4000000 in
theorem sE_co4 {E : mm_E} {G : mm_G} {J : mm_J} (hG : mm_GI G) {n q t : Nat} (hn : J 2 1 = nI n) (hn2 : n ≤ 100) (hp : J 1 3 = nI q) (hq : q ≤ n) (ht : J 0 7 = nI t) (ht9 : t ≤ 9) {r : Int32} {J2 : mm_J} {G2 : mm_G} (h : mm_Ret E qE_moveTo [.ref 0, .int (nI (ed_lb (J 3) q))] 86 J G (some (.int r)) 86 J2 G2) : mm_Ret E qE_carryOut [.ref 0, .int (nI 4)] 86 J G (some (.int r)) 86 J2 G2 := by
  refine mm_Met.of qE_carryOut_ok (by decide) (mm_cats rfl) (Nat.le_of_ble_eq_true rfl) ?_
  refine mm_iload_n rfl rfl ?_
  refine mm_tableIn (off := 196) (tgt := 197) rfl (by decide) (by decide) rfl (by decide) ?_
  refine mm_aload_n rfl rfl ?_
  refine mm_aload_n rfl rfl ?_
  refine mm_getR rfl rfl rfl (by decide) rfl (mm_gi hG 0 0 1 (by decide)) ?_
  refine mm_aload_n rfl rfl ?_
  refine mm_getR rfl rfl rfl (by decide) rfl (mm_gi hG 0 0 1 (by decide)) ?_
  refine mm_getI (x := nI q) rfl rfl rfl (by decide) rfl hp ?_
  refine mm_isV1 (M2 := qT_lineBeginning) wd_324 qT_lineBeginning_k (by decide) (sT_lineBeginning hG (by omega)) rfl (by decide) (Nat.le_of_ble_eq_true rfl) (by decide) (by decide) rfl (by decide) ?_
  refine mm_isV1 (M2 := qE_moveTo) wd_301 qE_moveTo_k (by decide) h rfl (by decide) (Nat.le_of_ble_eq_true rfl) (by decide) (by decide) rfl (by decide) ?_
  refine mm_ireturn rfl rfl rfl (by decide) (by decide) ?_
  exact ⟨rfl, rfl, rfl, rfl⟩
set_option maxRecDepth 100000 in
set_option maxHeartbeats 4000000 in
theorem sE_co5 {E : mm_E} {G : mm_G} {J : mm_J} (hG : mm_GI G) {n q t : Nat} (hn : J 2 1 = nI n) (hn2 : n ≤ 100) (hp : J 1 3 = nI q) (hq : q ≤ n) (ht : J 0 7 = nI t) (ht9 : t ≤ 9) {r : Int32} {J2 : mm_J} {G2 : mm_G} (h : mm_Ret E qE_moveTo [.ref 0, .int (nI (ed_le (J 3) n q))] 86 J G (some (.int r)) 86 J2 G2) : mm_Ret E qE_carryOut [.ref 0, .int (nI 5)] 86 J G (some (.int r)) 86 J2 G2 := by
  refine mm_Met.of qE_carryOut_ok (by decide) (mm_cats rfl) (Nat.le_of_ble_eq_true rfl) ?_
  refine mm_iload_n rfl rfl ?_
  refine mm_tableIn (off := 215) (tgt := 216) rfl (by decide) (by decide) rfl (by decide) ?_
  refine mm_aload_n rfl rfl ?_
  refine mm_aload_n rfl rfl ?_
  refine mm_getR rfl rfl rfl (by decide) rfl (mm_gi hG 0 0 1 (by decide)) ?_
  refine mm_aload_n rfl rfl ?_
  refine mm_getR rfl rfl rfl (by decide) rfl (mm_gi hG 0 0 1 (by decide)) ?_
  refine mm_getI (x := nI q) rfl rfl rfl (by decide) rfl hp ?_
  refine mm_isV1 (M2 := qT_lineEnd) wd_325 qT_lineEnd_k (by decide) (sT_lineEnd hG hn hn2 hq) rfl (by decide) (Nat.le_of_ble_eq_true rfl) (by decide) (by decide) rfl (by decide) ?_
  refine mm_isV1 (M2 := qE_moveTo) wd_301 qE_moveTo_k (by decide) h rfl (by decide) (Nat.le_of_ble_eq_true rfl) (by decide) (by decide) rfl (by decide) ?_
  refine mm_ireturn rfl rfl rfl (by decide) (by decide) ?_
  exact ⟨rfl, rfl, rfl, rfl⟩
set_option maxRecDepth 100000 in
set_option maxHeartbeats 4000000 in
theorem sE_co6 {E : mm_E} {G : mm_G} {J : mm_J} (hG : mm_GI G) {n q t : Nat} (hn : J 2 1 = nI n) (hn2 : n ≤ 100) (hp : J 1 3 = nI q) (hq : q ≤ n) (ht : J 0 7 = nI t) (ht9 : t ≤ 9) {r : Int32} {J2 : mm_J} {G2 : mm_G} (h : mm_Ret E qE_moveTo [.ref 0, .int (nI (ed_fw (J 3) n t q))] 86 J G (some (.int r)) 86 J2 G2) : mm_Ret E qE_carryOut [.ref 0, .int (nI 6)] 86 J G (some (.int r)) 86 J2 G2 := by
  refine mm_Met.of qE_carryOut_ok (by decide) (mm_cats rfl) (Nat.le_of_ble_eq_true rfl) ?_
  refine mm_iload_n rfl rfl ?_
  refine mm_tableIn (off := 234) (tgt := 235) rfl (by decide) (by decide) rfl (by decide) ?_
  refine mm_aload_n rfl rfl ?_
  refine mm_aload_n rfl rfl ?_
  refine mm_getR rfl rfl rfl (by decide) rfl (mm_gi hG 0 0 1 (by decide)) ?_
  refine mm_aload_n rfl rfl ?_
  refine mm_getR rfl rfl rfl (by decide) rfl (mm_gi hG 0 0 1 (by decide)) ?_
  refine mm_getI (x := nI q) rfl rfl rfl (by decide) rfl hp ?_
  refine mm_aload_n rfl rfl ?_
  refine mm_getI (x := nI t) rfl rfl rfl (by decide) rfl ht ?_
  refine mm_isV2 (M2 := qT_behindWords) wd_330 qT_behindWords_k (by decide) (sT_behindWords hG hn hn2 ht9 hq) rfl (by decide) (Nat.le_of_ble_eq_true rfl) (by decide) (by decide) rfl (by decide) ?_
  refine mm_isV1 (M2 := qE_moveTo) wd_301 qE_moveTo_k (by decide) h rfl (by decide) (Nat.le_of_ble_eq_true rfl) (by decide) (by decide) rfl (by decide) ?_
  refine mm_ireturn rfl rfl rfl (by decide) (by decide) ?_
  exact ⟨rfl, rfl, rfl, rfl⟩
set_option maxRecDepth 100000 in
set_option maxHeartbeats 4000000 in
theorem sE_co7 {E : mm_E} {G : mm_G} {J : mm_J} (hG : mm_GI G) {n q t : Nat} (hn : J 2 1 = nI n) (hn2 : n ≤ 100) (hp : J 1 3 = nI q) (hq : q ≤ n) (ht : J 0 7 = nI t) (ht9 : t ≤ 9) {r : Int32} {J2 : mm_J} {G2 : mm_G} (h : mm_Ret E qE_moveTo [.ref 0, .int (nI (ed_bw (J 3) t q))] 86 J G (some (.int r)) 86 J2 G2) : mm_Ret E qE_carryOut [.ref 0, .int (nI 7)] 86 J G (some (.int r)) 86 J2 G2 := by
  refine mm_Met.of qE_carryOut_ok (by decide) (mm_cats rfl) (Nat.le_of_ble_eq_true rfl) ?_
  refine mm_iload_n rfl rfl ?_
  refine mm_tableIn (off := 257) (tgt := 258) rfl (by decide) (by decide) rfl (by decide) ?_
  refine mm_aload_n rfl rfl ?_
  refine mm_aload_n rfl rfl ?_
  refine mm_getR rfl rfl rfl (by decide) rfl (mm_gi hG 0 0 1 (by decide)) ?_
  refine mm_aload_n rfl rfl ?_
  refine mm_getR rfl rfl rfl (by decide) rfl (mm_gi hG 0 0 1 (by decide)) ?_
  refine mm_getI (x := nI q) rfl rfl rfl (by decide) rfl hp ?_
  refine mm_aload_n rfl rfl ?_
  refine mm_getI (x := nI t) rfl rfl rfl (by decide) rfl ht ?_
  refine mm_isV2 (M2 := qT_beforeWords) wd_335 qT_beforeWords_k (by decide) (sT_beforeWords hG ht9 (by omega)) rfl (by decide) (Nat.le_of_ble_eq_true rfl) (by decide) (by decide) rfl (by decide) ?_
  refine mm_isV1 (M2 := qE_moveTo) wd_301 qE_moveTo_k (by decide) h rfl (by decide) (Nat.le_of_ble_eq_true rfl) (by decide) (by decide) rfl (by decide) ?_
  refine mm_ireturn rfl rfl rfl (by decide) (by decide) ?_
  exact ⟨rfl, rfl, rfl, rfl⟩
set_option maxRecDepth 100000 in
set_option maxHeartbeats 4000000 in
theorem sE_co8 {E : mm_E} {G : mm_G} {J : mm_J} (hG : mm_GI G) {n q t : Nat} (hn : J 2 1 = nI n) (hn2 : n ≤ 100) (hp : J 1 3 = nI q) (hq : q ≤ n) (ht : J 0 7 = nI t) (ht9 : t ≤ 9) {r : Int32} {J2 : mm_J} {G2 : mm_G} (h : mm_Ret E qE_takeOut [.ref 0, .int (nI q), .int (nI (min (q + t) n))] 86 J G (some (.int r)) 86 J2 G2) : mm_Ret E qE_carryOut [.ref 0, .int (nI 8)] 86 J G (some (.int r)) 86 J2 G2 := by
  refine mm_Met.of qE_carryOut_ok (by decide) (mm_cats rfl) (Nat.le_of_ble_eq_true rfl) ?_
  refine mm_iload_n rfl rfl ?_
  refine mm_tableIn (off := 280) (tgt := 281) rfl (by decide) (by decide) rfl (by decide) ?_
  refine mm_aload_n rfl rfl ?_
  refine mm_aload_n rfl rfl ?_
  refine mm_getR rfl rfl rfl (by decide) rfl (mm_gi hG 0 0 1 (by decide)) ?_
  refine mm_getI (x := nI q) rfl rfl rfl (by decide) rfl hp ?_
  refine mm_aload_n rfl rfl ?_
  refine mm_getR rfl rfl rfl (by decide) rfl (mm_gi hG 0 0 1 (by decide)) ?_
  refine mm_getI (x := nI q) rfl rfl rfl (by decide) rfl hp ?_
  refine mm_aload_n rfl rfl ?_
  refine mm_getI (x := nI t) rfl rfl rfl (by decide) rfl ht ?_
  refine mm_iaddN rfl ?_
  refine mm_aload_n rfl rfl ?_
  refine mm_getR rfl rfl rfl (by decide) rfl (mm_gi hG 0 0 1 (by decide)) ?_
  refine mm_getR rfl rfl rfl (by decide) rfl (mm_gi hG 1 0 2 (by decide)) ?_
  refine mm_getI (x := nI n) rfl rfl rfl (by decide) rfl hn ?_
  refine mm_minN (by omega) (by omega) rfl wd_298 wd_299 wd_10 wd_300 (by decide) (Nat.le_of_ble_eq_true rfl) (by decide) (by decide) ?_
  refine mm_isV2 (M2 := qE_takeOut) wd_339 qE_takeOut_k (by decide) h rfl (by decide) (Nat.le_of_ble_eq_true rfl) (by decide) (by decide) rfl (by decide) ?_
  refine mm_ireturn rfl rfl rfl (by decide) (by decide) ?_
  exact ⟨rfl, rfl, rfl, rfl⟩
set_option maxRecDepth 100000 in
set_option maxHeartbeats 4000000 in
theorem sE_co9 {E : mm_E} {G : mm_G} {J : mm_J} (hG : mm_GI G) {n q t : Nat} (hn : J 2 1 = nI n) (hn2 : n ≤ 100) (hp : J 1 3 = nI q) (hq : q ≤ n) (ht : J 0 7 = nI t) (ht9 : t ≤ 9) {r : Int32} {J2 : mm_J} {G2 : mm_G} (h : mm_Ret E qE_takeOut [.ref 0, .int (nI (q - t)), .int (nI q)] 86 J G (some (.int r)) 86 J2 G2) : mm_Ret E qE_carryOut [.ref 0, .int (nI 9)] 86 J G (some (.int r)) 86 J2 G2 := by
  refine mm_Met.of qE_carryOut_ok (by decide) (mm_cats rfl) (Nat.le_of_ble_eq_true rfl) ?_
  refine mm_iload_n rfl rfl ?_
  refine mm_tableIn (off := 317) (tgt := 318) rfl (by decide) (by decide) rfl (by decide) ?_
  refine mm_aload_n rfl rfl ?_
  refine mm_aload_n rfl rfl ?_
  refine mm_getR rfl rfl rfl (by decide) rfl (mm_gi hG 0 0 1 (by decide)) ?_
  refine mm_getI (x := nI q) rfl rfl rfl (by decide) rfl hp ?_
  refine mm_aload_n rfl rfl ?_
  refine mm_getI (x := nI t) rfl rfl rfl (by decide) rfl ht ?_
  refine mm_isub rfl ?_
  refine mm_iconst (v := nI 0) rfl (by decide) ?_
  refine mm_max rfl wd_305 wd_306 wd_10 wd_307 (by decide) (Nat.le_of_ble_eq_true rfl) (by decide) (by decide) ?_
  rw [ed_sm (by omega) (by omega)]
  refine mm_aload_n rfl rfl ?_
  refine mm_getR rfl rfl rfl (by decide) rfl (mm_gi hG 0 0 1 (by decide)) ?_
  refine mm_getI (x := nI q) rfl rfl rfl (by decide) rfl hp ?_
  refine mm_isV2 (M2 := qE_takeOut) wd_339 qE_takeOut_k (by decide) h rfl (by decide) (Nat.le_of_ble_eq_true rfl) (by decide) (by decide) rfl (by decide) ?_
  refine mm_ireturn rfl rfl rfl (by decide) (by decide) ?_
  exact ⟨rfl, rfl, rfl, rfl⟩
set_option maxRecDepth 100000 in
set_option maxHeartbeats 4000000 in
theorem sE_co10a {E : mm_E} {G : mm_G} {J : mm_J} (hG : mm_GI G) {n q t : Nat} (hn : J 2 1 = nI n) (hn2 : n ≤ 100) (hp : J 1 3 = nI q) (hq : q ≤ n) (ht : J 0 7 = nI t) (ht9 : t ≤ 9) (hl : J 0 8 = nI 10 ∨ J 0 8 = nI 11) {r : Int32} {J2 : mm_J} {G2 : mm_G} (h : mm_Ret E qE_kill [.ref 0, .int (nI q), .int (nI (ed_lke (J 3) n q)), .int (nI 1)] 86 J G (some (.int r)) 86 J2 G2) : mm_Ret E qE_carryOut [.ref 0, .int (nI 10)] 86 J G (some (.int r)) 86 J2 G2 := by
  refine mm_Met.of qE_carryOut_ok (by decide) (mm_cats rfl) (Nat.le_of_ble_eq_true rfl) ?_
  refine mm_iload_n rfl rfl ?_
  refine mm_tableIn (off := 345) (tgt := 346) rfl (by decide) (by decide) rfl (by decide) ?_
  refine mm_aload_n rfl rfl ?_
  refine mm_aload_n rfl rfl ?_
  refine mm_getR rfl rfl rfl (by decide) rfl (mm_gi hG 0 0 1 (by decide)) ?_
  refine mm_getI (x := nI q) rfl rfl rfl (by decide) rfl hp ?_
  refine mm_aload_n rfl rfl ?_
  refine mm_isV0 (M2 := qE_lineKillEnd) wd_343 qE_lineKillEnd_k (by decide) (sE_lineKillEnd hG hn hn2 hp hq) rfl (by decide) (Nat.le_of_ble_eq_true rfl) (by decide) (by decide) rfl (by decide) ?_
  refine mm_aload_n rfl rfl ?_
  refine mm_getI rfl rfl rfl (by decide) rfl rfl ?_
  refine mm_bipush (v := nI 10) rfl (by decide) ?_
  refine mm_icmp_eq (tgt := 376) rfl (by decide) (fun h364 => ?_) (fun h364 => ?_)
  · refine mm_iconst (v := nI 1) rfl (by decide) ?_
    refine mm_goto (tgt := 381) rfl (by decide) ?_
    refine mm_isV3 (M2 := qE_kill) wd_347 qE_kill_k (by decide) h rfl (by decide) (Nat.le_of_ble_eq_true rfl) (by decide) (by decide) rfl (by decide) ?_
    refine mm_ireturn rfl rfl rfl (by decide) (by decide) ?_
    exact ⟨rfl, rfl, rfl, rfl⟩
  · refine mm_aload_n rfl rfl ?_
    refine mm_getI rfl rfl rfl (by decide) rfl rfl ?_
    refine mm_bipush (v := nI 11) rfl (by decide) ?_
    refine mm_icmp_ne (tgt := 380) rfl (by decide) (fun h373 => ?_) (fun h373 => ?_)
    · exact absurd hl (fun e => e.elim h364 h373)
    · refine mm_iconst (v := nI 1) rfl (by decide) ?_
      refine mm_goto (tgt := 381) rfl (by decide) ?_
      refine mm_isV3 (M2 := qE_kill) wd_347 qE_kill_k (by decide) h rfl (by decide) (Nat.le_of_ble_eq_true rfl) (by decide) (by decide) rfl (by decide) ?_
      refine mm_ireturn rfl rfl rfl (by decide) (by decide) ?_
      exact ⟨rfl, rfl, rfl, rfl⟩
set_option maxRecDepth 100000 in
set_option maxHeartbeats 4000000 in
theorem sE_co10b {E : mm_E} {G : mm_G} {J : mm_J} (hG : mm_GI G) {n q t : Nat} (hn : J 2 1 = nI n) (hn2 : n ≤ 100) (hp : J 1 3 = nI q) (hq : q ≤ n) (ht : J 0 7 = nI t) (ht9 : t ≤ 9) (hl : ¬ J 0 8 = nI 10 ∧ ¬ J 0 8 = nI 11) {r : Int32} {J2 : mm_J} {G2 : mm_G} (h : mm_Ret E qE_kill [.ref 0, .int (nI q), .int (nI (ed_lke (J 3) n q)), .int (nI 0)] 86 J G (some (.int r)) 86 J2 G2) : mm_Ret E qE_carryOut [.ref 0, .int (nI 10)] 86 J G (some (.int r)) 86 J2 G2 := by
  refine mm_Met.of qE_carryOut_ok (by decide) (mm_cats rfl) (Nat.le_of_ble_eq_true rfl) ?_
  refine mm_iload_n rfl rfl ?_
  refine mm_tableIn (off := 345) (tgt := 346) rfl (by decide) (by decide) rfl (by decide) ?_
  refine mm_aload_n rfl rfl ?_
  refine mm_aload_n rfl rfl ?_
  refine mm_getR rfl rfl rfl (by decide) rfl (mm_gi hG 0 0 1 (by decide)) ?_
  refine mm_getI (x := nI q) rfl rfl rfl (by decide) rfl hp ?_
  refine mm_aload_n rfl rfl ?_
  refine mm_isV0 (M2 := qE_lineKillEnd) wd_343 qE_lineKillEnd_k (by decide) (sE_lineKillEnd hG hn hn2 hp hq) rfl (by decide) (Nat.le_of_ble_eq_true rfl) (by decide) (by decide) rfl (by decide) ?_
  refine mm_aload_n rfl rfl ?_
  refine mm_getI rfl rfl rfl (by decide) rfl rfl ?_
  refine mm_bipush (v := nI 10) rfl (by decide) ?_
  refine mm_icmp_eq (tgt := 376) rfl (by decide) (fun h364 => ?_) (fun h364 => ?_)
  · exact absurd h364 hl.1
  · refine mm_aload_n rfl rfl ?_
    refine mm_getI rfl rfl rfl (by decide) rfl rfl ?_
    refine mm_bipush (v := nI 11) rfl (by decide) ?_
    refine mm_icmp_ne (tgt := 380) rfl (by decide) (fun h373 => ?_) (fun h373 => ?_)
    · refine mm_iconst (v := nI 0) rfl (by decide) ?_
      refine mm_isV3 (M2 := qE_kill) wd_347 qE_kill_k (by decide) h rfl (by decide) (Nat.le_of_ble_eq_true rfl) (by decide) (by decide) rfl (by decide) ?_
      refine mm_ireturn rfl rfl rfl (by decide) (by decide) ?_
      exact ⟨rfl, rfl, rfl, rfl⟩
    · exact absurd h373 hl.2
set_option maxRecDepth 100000 in
set_option maxHeartbeats 4000000 in
theorem sE_co11a {E : mm_E} {G : mm_G} {J : mm_J} (hG : mm_GI G) {q k : Nat} (hp : J 1 3 = nI q) (hq : q ≤ 100) (hk : J 4 4 = nI k) (hk2 : k ≤ 100) {r : Int32} {J2 : mm_J} {G2 : mm_G} (h : mm_Ret E qE_kill [.ref 0, .int (nI (min k q)), .int (nI (max k q)), .int (nI 0)] 86 J G (some (.int r)) 86 J2 G2) : mm_Ret E qE_carryOut [.ref 0, .int (nI 11)] 86 J G (some (.int r)) 86 J2 G2 := by
  refine mm_Met.of qE_carryOut_ok (by decide) (mm_cats rfl) (Nat.le_of_ble_eq_true rfl) ?_
  refine mm_iload_n rfl rfl ?_
  refine mm_tableIn (off := 384) (tgt := 385) rfl (by decide) (by decide) rfl (by decide) ?_
  refine mm_aload_n rfl rfl ?_
  refine mm_aload_n rfl rfl ?_
  refine mm_isV0 (M2 := qE_regionBeginning) wd_362 qE_regionBeginning_k (by decide) (sE_regionBeginning1 hG hp hq hk hk2) rfl (by decide) (Nat.le_of_ble_eq_true rfl) (by decide) (by decide) rfl (by decide) ?_
  refine mm_aload_n rfl rfl ?_
  refine mm_isV0 (M2 := qE_regionEnd) wd_366 qE_regionEnd_k (by decide) (sE_regionEnd1 hG hp hq hk hk2) rfl (by decide) (Nat.le_of_ble_eq_true rfl) (by decide) (by decide) rfl (by decide) ?_
  refine mm_iconst (v := nI 0) rfl (by decide) ?_
  refine mm_isV3 (M2 := qE_kill) wd_347 qE_kill_k (by decide) h rfl (by decide) (Nat.le_of_ble_eq_true rfl) (by decide) (by decide) rfl (by decide) ?_
  refine mm_ireturn rfl rfl rfl (by decide) (by decide) ?_
  exact ⟨rfl, rfl, rfl, rfl⟩
set_option maxRecDepth 100000 in
set_option maxHeartbeats 4000000 in
theorem sE_co11b {E : mm_E} {G : mm_G} {J : mm_J} (hG : mm_GI G) {q : Nat} (hp : J 1 3 = nI q) (hq : q ≤ 100) (hk : J 4 4 = -2) {r : Int32} {J2 : mm_J} {G2 : mm_G} (h : mm_Ret E qE_kill [.ref 0, .int (nI q), .int (nI q), .int (nI 0)] 86 J G (some (.int r)) 86 J2 G2) : mm_Ret E qE_carryOut [.ref 0, .int (nI 11)] 86 J G (some (.int r)) 86 J2 G2 := by
  refine mm_Met.of qE_carryOut_ok (by decide) (mm_cats rfl) (Nat.le_of_ble_eq_true rfl) ?_
  refine mm_iload_n rfl rfl ?_
  refine mm_tableIn (off := 384) (tgt := 385) rfl (by decide) (by decide) rfl (by decide) ?_
  refine mm_aload_n rfl rfl ?_
  refine mm_aload_n rfl rfl ?_
  refine mm_isV0 (M2 := qE_regionBeginning) wd_362 qE_regionBeginning_k (by decide) (sE_regionBeginning0 hG hp hq hk) rfl (by decide) (Nat.le_of_ble_eq_true rfl) (by decide) (by decide) rfl (by decide) ?_
  refine mm_aload_n rfl rfl ?_
  refine mm_isV0 (M2 := qE_regionEnd) wd_366 qE_regionEnd_k (by decide) (sE_regionEnd0 hG hp hq hk) rfl (by decide) (Nat.le_of_ble_eq_true rfl) (by decide) (by decide) rfl (by decide) ?_
  refine mm_iconst (v := nI 0) rfl (by decide) ?_
  refine mm_isV3 (M2 := qE_kill) wd_347 qE_kill_k (by decide) h rfl (by decide) (Nat.le_of_ble_eq_true rfl) (by decide) (by decide) rfl (by decide) ?_
  refine mm_ireturn rfl rfl rfl (by decide) (by decide) ?_
  exact ⟨rfl, rfl, rfl, rfl⟩
set_option maxRecDepth 100000 in
set_option maxHeartbeats 4000000 in
theorem sE_co12a {E : mm_E} {G : mm_G} {J : mm_J} (hG : mm_GI G) {q k : Nat} (hp : J 1 3 = nI q) (hq : q ≤ 100) (hk : J 4 4 = nI k) (hk2 : k ≤ 100) {r : Int32} {J2 : mm_J} {G2 : mm_G} (h : mm_Ret E qE_copy [.ref 0, .int (nI (min k q)), .int (nI (max k q))] 86 J G (some (.int r)) 86 J2 G2) : mm_Ret E qE_carryOut [.ref 0, .int (nI 12)] 86 J G (some (.int r)) 86 J2 G2 := by
  refine mm_Met.of qE_carryOut_ok (by decide) (mm_cats rfl) (Nat.le_of_ble_eq_true rfl) ?_
  refine mm_iload_n rfl rfl ?_
  refine mm_tableIn (off := 398) (tgt := 399) rfl (by decide) (by decide) rfl (by decide) ?_
  refine mm_aload_n rfl rfl ?_
  refine mm_aload_n rfl rfl ?_
  refine mm_isV0 (M2 := qE_regionBeginning) wd_362 qE_regionBeginning_k (by decide) (sE_regionBeginning1 hG hp hq hk hk2) rfl (by decide) (Nat.le_of_ble_eq_true rfl) (by decide) (by decide) rfl (by decide) ?_
  refine mm_aload_n rfl rfl ?_
  refine mm_isV0 (M2 := qE_regionEnd) wd_366 qE_regionEnd_k (by decide) (sE_regionEnd1 hG hp hq hk hk2) rfl (by decide) (Nat.le_of_ble_eq_true rfl) (by decide) (by decide) rfl (by decide) ?_
  refine mm_isV2 (M2 := qE_copy) wd_370 qE_copy_k (by decide) h rfl (by decide) (Nat.le_of_ble_eq_true rfl) (by decide) (by decide) rfl (by decide) ?_
  refine mm_ireturn rfl rfl rfl (by decide) (by decide) ?_
  exact ⟨rfl, rfl, rfl, rfl⟩
set_option maxRecDepth 100000 in
set_option maxHeartbeats 4000000 in
theorem sE_co12b {E : mm_E} {G : mm_G} {J : mm_J} (hG : mm_GI G) {q : Nat} (hp : J 1 3 = nI q) (hq : q ≤ 100) (hk : J 4 4 = -2) {r : Int32} {J2 : mm_J} {G2 : mm_G} (h : mm_Ret E qE_copy [.ref 0, .int (nI q), .int (nI q)] 86 J G (some (.int r)) 86 J2 G2) : mm_Ret E qE_carryOut [.ref 0, .int (nI 12)] 86 J G (some (.int r)) 86 J2 G2 := by
  refine mm_Met.of qE_carryOut_ok (by decide) (mm_cats rfl) (Nat.le_of_ble_eq_true rfl) ?_
  refine mm_iload_n rfl rfl ?_
  refine mm_tableIn (off := 398) (tgt := 399) rfl (by decide) (by decide) rfl (by decide) ?_
  refine mm_aload_n rfl rfl ?_
  refine mm_aload_n rfl rfl ?_
  refine mm_isV0 (M2 := qE_regionBeginning) wd_362 qE_regionBeginning_k (by decide) (sE_regionBeginning0 hG hp hq hk) rfl (by decide) (Nat.le_of_ble_eq_true rfl) (by decide) (by decide) rfl (by decide) ?_
  refine mm_aload_n rfl rfl ?_
  refine mm_isV0 (M2 := qE_regionEnd) wd_366 qE_regionEnd_k (by decide) (sE_regionEnd0 hG hp hq hk) rfl (by decide) (Nat.le_of_ble_eq_true rfl) (by decide) (by decide) rfl (by decide) ?_
  refine mm_isV2 (M2 := qE_copy) wd_370 qE_copy_k (by decide) h rfl (by decide) (Nat.le_of_ble_eq_true rfl) (by decide) (by decide) rfl (by decide) ?_
  refine mm_ireturn rfl rfl rfl (by decide) (by decide) ?_
  exact ⟨rfl, rfl, rfl, rfl⟩
set_option maxRecDepth 100000 in
set_option maxHeartbeats 4000000 in
theorem sE_co13 {E : mm_E} {G : mm_G} {J : mm_J} (hG : mm_GI G) {q : Nat} (hp : J 1 3 = nI q) {r : Int32} {J2 : mm_J} {G2 : mm_G} (h : mm_Ret E qE_putKill [.ref 0, .int (nI 0), .int (nI q)] 86 J G (some (.int r)) 86 J2 G2) : mm_Ret E qE_carryOut [.ref 0, .int (nI 13)] 86 J G (some (.int r)) 86 J2 G2 := by
  refine mm_Met.of qE_carryOut_ok (by decide) (mm_cats rfl) (Nat.le_of_ble_eq_true rfl) ?_
  refine mm_iload_n rfl rfl ?_
  refine mm_tableIn (off := 411) (tgt := 412) rfl (by decide) (by decide) rfl (by decide) ?_
  refine mm_aload_n rfl rfl ?_
  refine mm_iconst (v := nI 0) rfl (by decide) ?_
  refine mm_aload_n rfl rfl ?_
  refine mm_getR rfl rfl rfl (by decide) rfl (mm_gi hG 0 0 1 (by decide)) ?_
  refine mm_getI (x := nI q) rfl rfl rfl (by decide) rfl hp ?_
  refine mm_isV2 (M2 := qE_putKill) wd_374 qE_putKill_k (by decide) h rfl (by decide) (Nat.le_of_ble_eq_true rfl) (by decide) (by decide) rfl (by decide) ?_
  refine mm_ireturn rfl rfl rfl (by decide) (by decide) ?_
  exact ⟨rfl, rfl, rfl, rfl⟩
set_option maxRecDepth 100000 in
set_option maxHeartbeats 4000000 in
theorem sE_co14 {E : mm_E} {G : mm_G} {J : mm_J} (hG : mm_GI G) {y x : Int32} (h0 : mm_Ret E qE_olderKill [.ref 0] 86 J G (some (.int y)) 86 J G) (hx : J 4 4 = x) {r : Int32} {J2 : mm_J} {G2 : mm_G} (h : mm_Ret E qE_putKill [.ref 0, .int y, .int x] 86 J G (some (.int r)) 86 J2 G2) : mm_Ret E qE_carryOut [.ref 0, .int (nI 14)] 86 J G (some (.int r)) 86 J2 G2 := by
  refine mm_Met.of qE_carryOut_ok (by decide) (mm_cats rfl) (Nat.le_of_ble_eq_true rfl) ?_
  refine mm_iload_n rfl rfl ?_
  refine mm_tableIn (off := 424) (tgt := 425) rfl (by decide) (by decide) rfl (by decide) ?_
  refine mm_aload_n rfl rfl ?_
  refine mm_aload_n rfl rfl ?_
  refine mm_isV0 (M2 := qE_olderKill) wd_382 qE_olderKill_k (by decide) h0 rfl (by decide) (Nat.le_of_ble_eq_true rfl) (by decide) (by decide) rfl (by decide) ?_
  refine mm_aload_n rfl rfl ?_
  refine mm_getR rfl rfl rfl (by decide) rfl (mm_gi hG 0 0 1 (by decide)) ?_
  refine mm_getR rfl rfl rfl (by decide) rfl (mm_gi hG 1 1 4 (by decide)) ?_
  refine mm_iconst (v := nI 4) rfl (by decide) ?_
  refine mm_rdN rfl (by decide) rfl (by decide) (by decide) (by decide) rfl hx ?_
  refine mm_isV2 (M2 := qE_putKill) wd_374 qE_putKill_k (by decide) h rfl (by decide) (Nat.le_of_ble_eq_true rfl) (by decide) (by decide) rfl (by decide) ?_
  refine mm_ireturn rfl rfl rfl (by decide) (by decide) ?_
  exact ⟨rfl, rfl, rfl, rfl⟩
set_option maxRecDepth 100000 in
set_option maxHeartbeats 4000000 in
theorem sE_co15 {E : mm_E} {G : mm_G} {J : mm_J} (hG : mm_GI G)  {r : Int32} {J2 : mm_J} {G2 : mm_G} (h : mm_Ret E qE_setMark [.ref 0, .int (J 1 3)] 86 J G (some (.int r)) 86 J2 G2) : mm_Ret E qE_carryOut [.ref 0, .int (nI 15)] 86 J G (some (.int r)) 86 J2 G2 := by
  refine mm_Met.of qE_carryOut_ok (by decide) (mm_cats rfl) (Nat.le_of_ble_eq_true rfl) ?_
  refine mm_iload_n rfl rfl ?_
  refine mm_tableIn (off := 442) (tgt := 443) rfl (by decide) (by decide) rfl (by decide) ?_
  refine mm_aload_n rfl rfl ?_
  refine mm_aload_n rfl rfl ?_
  refine mm_getR rfl rfl rfl (by decide) rfl (mm_gi hG 0 0 1 (by decide)) ?_
  refine mm_getI (x := J 1 3) rfl rfl rfl (by decide) rfl rfl ?_
  refine mm_isV1 (M2 := qE_setMark) wd_378 qE_setMark_k (by decide) h rfl (by decide) (Nat.le_of_ble_eq_true rfl) (by decide) (by decide) rfl (by decide) ?_
  refine mm_ireturn rfl rfl rfl (by decide) (by decide) ?_
  exact ⟨rfl, rfl, rfl, rfl⟩
set_option maxRecDepth 100000 in
set_option maxHeartbeats 4000000 in
theorem sE_co16 {E : mm_E} {G : mm_G} {J : mm_J} (hG : mm_GI G)  {r : Int32} {J2 : mm_J} {G2 : mm_G} (h : mm_Ret E qE_swapMark [.ref 0] 86 J G (some (.int r)) 86 J2 G2) : mm_Ret E qE_carryOut [.ref 0, .int (nI 16)] 86 J G (some (.int r)) 86 J2 G2 := by
  refine mm_Met.of qE_carryOut_ok (by decide) (mm_cats rfl) (Nat.le_of_ble_eq_true rfl) ?_
  refine mm_iload_n rfl rfl ?_
  refine mm_tableIn (off := 454) (tgt := 455) rfl (by decide) (by decide) rfl (by decide) ?_
  refine mm_aload_n rfl rfl ?_
  refine mm_isV0 (M2 := qE_swapMark) wd_386 qE_swapMark_k (by decide) h rfl (by decide) (Nat.le_of_ble_eq_true rfl) (by decide) (by decide) rfl (by decide) ?_
  refine mm_ireturn rfl rfl rfl (by decide) (by decide) ?_
  exact ⟨rfl, rfl, rfl, rfl⟩
set_option maxRecDepth 100000 in
set_option maxHeartbeats 4000000 in
theorem sE_co17 {E : mm_E} {G : mm_G} {J : mm_J} (hG : mm_GI G)  {r : Int32} {J2 : mm_J} {G2 : mm_G} (h : mm_Ret E qE_swapCharacters [.ref 0] 86 J G (some (.int r)) 86 J2 G2) : mm_Ret E qE_carryOut [.ref 0, .int (nI 17)] 86 J G (some (.int r)) 86 J2 G2 := by
  refine mm_Met.of qE_carryOut_ok (by decide) (mm_cats rfl) (Nat.le_of_ble_eq_true rfl) ?_
  refine mm_iload_n rfl rfl ?_
  refine mm_tableIn (off := 459) (tgt := 460) rfl (by decide) (by decide) rfl (by decide) ?_
  refine mm_aload_n rfl rfl ?_
  refine mm_isV0 (M2 := qE_swapCharacters) wd_390 qE_swapCharacters_k (by decide) h rfl (by decide) (Nat.le_of_ble_eq_true rfl) (by decide) (by decide) rfl (by decide) ?_
  refine mm_ireturn rfl rfl rfl (by decide) (by decide) ?_
  exact ⟨rfl, rfl, rfl, rfl⟩
set_option maxRecDepth 100000 in
set_option maxHeartbeats 4000000 in
theorem sE_co18 {E : mm_E} {G : mm_G} {J : mm_J} (hG : mm_GI G) {n : Nat} (hn : J 2 1 = nI n) {r : Int32} {J2 : mm_J} {G2 : mm_G} (h : mm_Ret E qE_setMark [.ref 0, .int (nI n)] 86 (mm_set J 1 3 (nI 0)) G (some (.int r)) 86 J2 G2) : mm_Ret E qE_carryOut [.ref 0, .int (nI 18)] 86 J G (some (.int r)) 86 J2 G2 := by
  refine mm_Met.of qE_carryOut_ok (by decide) (mm_cats rfl) (Nat.le_of_ble_eq_true rfl) ?_
  refine mm_iload_n rfl rfl ?_
  refine mm_tableIn (off := 464) (tgt := 465) rfl (by decide) (by decide) rfl (by decide) ?_
  refine mm_aload_n rfl rfl ?_
  refine mm_getR rfl rfl rfl (by decide) rfl (mm_gi hG 0 0 1 (by decide)) ?_
  refine mm_iconst (v := nI 0) rfl (by decide) ?_
  refine mm_putI rfl rfl rfl (by decide) rfl (Or.inl rfl) rfl rfl ?_
  refine mm_aload_n rfl rfl ?_
  refine mm_aload_n rfl rfl ?_
  refine mm_getR rfl rfl rfl (by decide) rfl (mm_gi hG 0 0 1 (by decide)) ?_
  refine mm_getR rfl rfl rfl (by decide) rfl (mm_gi hG 1 0 2 (by decide)) ?_
  refine mm_getI (x := nI n) rfl rfl rfl (by decide) rfl (by simp [mm_set, mm_cp, hn]) ?_
  refine mm_isV1 (M2 := qE_setMark) wd_378 qE_setMark_k (by decide) h rfl (by decide) (Nat.le_of_ble_eq_true rfl) (by decide) (by decide) rfl (by decide) ?_
  refine mm_ireturn rfl rfl rfl (by decide) (by decide) ?_
  exact ⟨rfl, rfl, rfl, rfl⟩
set_option maxRecDepth 100000 in
set_option maxHeartbeats 4000000 in
theorem sE_co19 {E : mm_E} {G : mm_G} {J : mm_J} (hG : mm_GI G)  {r : Int32} {J2 : mm_J} {G2 : mm_G} (h : mm_Ret E qE_undo [.ref 0] 86 J G (some (.int r)) 86 J2 G2) : mm_Ret E qE_carryOut [.ref 0, .int (nI 19)] 86 J G (some (.int r)) 86 J2 G2 := by
  refine mm_Met.of qE_carryOut_ok (by decide) (mm_cats rfl) (Nat.le_of_ble_eq_true rfl) ?_
  refine mm_iload_n rfl rfl ?_
  refine mm_tableIn (off := 487) (tgt := 488) rfl (by decide) (by decide) rfl (by decide) ?_
  refine mm_aload_n rfl rfl ?_
  refine mm_isV0 (M2 := qE_undo) wd_394 qE_undo_k (by decide) h rfl (by decide) (Nat.le_of_ble_eq_true rfl) (by decide) (by decide) rfl (by decide) ?_
  refine mm_ireturn rfl rfl rfl (by decide) (by decide) ?_
  exact ⟨rfl, rfl, rfl, rfl⟩
set_option maxRecDepth 100000 in
set_option maxHeartbeats 4000000 in
theorem sE_co20 {E : mm_E} {G : mm_G} {J : mm_J} (hG : mm_GI G)  {r : Int32} {J2 : mm_J} {G2 : mm_G} (h : mm_Ret E qE_search [.ref 0] 86 J G (some (.int r)) 86 J2 G2) : mm_Ret E qE_carryOut [.ref 0, .int (nI 20)] 86 J G (some (.int r)) 86 J2 G2 := by
  refine mm_Met.of qE_carryOut_ok (by decide) (mm_cats rfl) (Nat.le_of_ble_eq_true rfl) ?_
  refine mm_iload_n rfl rfl ?_
  refine mm_tableIn (off := 492) (tgt := 493) rfl (by decide) (by decide) rfl (by decide) ?_
  refine mm_aload_n rfl rfl ?_
  refine mm_isV0 (M2 := qE_search) wd_404 qE_search_k (by decide) h rfl (by decide) (Nat.le_of_ble_eq_true rfl) (by decide) (by decide) rfl (by decide) ?_
  refine mm_ireturn rfl rfl rfl (by decide) (by decide) ?_
  exact ⟨rfl, rfl, rfl, rfl⟩
set_option maxRecDepth 100000 in
set_option maxHeartbeats 4000000 in
theorem sE_co21 {E : mm_E} {G : mm_G} {J : mm_J}  : mm_Ret E qE_carryOut [.ref 0, .int (nI 21)] 86 J G (some (.int (-2))) 86 J G := by
  refine mm_Met.of qE_carryOut_ok (by decide) (mm_cats rfl) (Nat.le_of_ble_eq_true rfl) ?_
  refine mm_iload_n rfl rfl ?_
  refine mm_tableOut (tgt := 498) rfl (by decide) (by decide) ?_
  refine mm_bipush (v := -2) rfl (by decide) ?_
  refine mm_ireturn rfl rfl rfl (by decide) (by decide) ?_
  exact ⟨rfl, rfl, rfl, rfl⟩
set_option maxRecDepth 100000 in
set_option maxHeartbeats 4000000 in
theorem sE_performX {E : mm_E} {G : mm_G} {J : mm_J} {x : Int32} (h : x < 0 ∨ nI 21 < x) : mm_Ret E qE_perform [.ref 0, .int x] 86 J G (some (.int x)) 86 J G := by
  refine mm_Met.of qE_perform_ok (by decide) (mm_cats rfl) (Nat.le_of_ble_eq_true rfl) ?_
  refine mm_iload_n rfl rfl ?_
  refine mm_if_lt (tgt := 10) rfl (by decide) (fun h1 => ?_) (fun h1 => ?_)
  · refine mm_iload_n rfl rfl ?_
    refine mm_ireturn rfl rfl rfl (by decide) (by decide) ?_
    exact ⟨rfl, rfl, rfl, rfl⟩
  · refine mm_iload_n rfl rfl ?_
    refine mm_bipush (v := nI 21) rfl (by decide) ?_
    refine mm_icmp_le (tgt := 12) rfl (by decide) (fun h7 => ?_) (fun h7 => ?_)
    · exact h.elim (fun q => absurd q h1) (fun q => absurd h7 (Int32.not_le.mpr q))
    · refine mm_iload_n rfl rfl ?_
      refine mm_ireturn rfl rfl rfl (by decide) (by decide) ?_
      exact ⟨rfl, rfl, rfl, rfl⟩
set_option maxRecDepth 100000 in
set_option maxHeartbeats 4000000 in
theorem sE_perform0 {E : mm_E} {G : mm_G} {J : mm_J} {k : Nat} (hk : k ≤ 21) {r : Int32} {J2 : mm_J} {G2 : mm_G} (h : mm_Ret E qE_carryOut [.ref 0, .int (nI k)] 86 J G (some (.int r)) 86 J2 G2) (hr : r < 0) : mm_Ret E qE_perform [.ref 0, .int (nI k)] 86 J G (some (.int r)) 86 J2 G2 := by
  refine mm_Met.of qE_perform_ok (by decide) (mm_cats rfl) (Nat.le_of_ble_eq_true rfl) ?_
  refine mm_iload_n rfl rfl ?_
  refine mm_if_ltN (tgt := 10) rfl (by decide) (by omega) ?_
  refine mm_iload_n rfl rfl ?_
  refine mm_bipush (v := nI 21) rfl (by decide) ?_
  refine mm_icmp_leN (tgt := 12) rfl (by decide) (by omega) (by omega) (fun h7 => ?_) (fun h7 => ?_)
  · refine mm_aload_n rfl rfl ?_
    refine mm_iload_n rfl rfl ?_
    refine mm_isV1 (M2 := qE_carryOut) wd_294 qE_carryOut_k (by decide) h rfl (by decide) (Nat.le_of_ble_eq_true rfl) (by decide) (by decide) rfl (by decide) ?_
    refine mm_istore_n rfl (by decide) ?_
    refine mm_iload_n rfl rfl ?_
    refine mm_if_lt (tgt := 27) rfl (by decide) (fun h19 => ?_) (fun h19 => ?_)
    · refine mm_iload_n rfl rfl ?_
      refine mm_ireturn rfl rfl rfl (by decide) (by decide) ?_
      exact ⟨rfl, rfl, rfl, rfl⟩
    · exact absurd hr h19
  · exact absurd h7 (by omega)
set_option maxRecDepth 100000 in
set_option maxHeartbeats 4000000 in
theorem sE_perform1 {E : mm_E} {G : mm_G} {J : mm_J} {k : Nat} (hk : k ≤ 21) {r : Int32} {J2 : mm_J} {G2 : mm_G} (h : mm_Ret E qE_carryOut [.ref 0, .int (nI k)] 86 J G (some (.int r)) 86 J2 G2) (hr : ¬ r < 0) : mm_Ret E qE_perform [.ref 0, .int (nI k)] 86 J G (some (.int r)) 86 (mm_set (mm_set J2 0 8 (nI k)) 0 7 (nI 1)) G2 := by
  refine mm_Met.of qE_perform_ok (by decide) (mm_cats rfl) (Nat.le_of_ble_eq_true rfl) ?_
  refine mm_iload_n rfl rfl ?_
  refine mm_if_ltN (tgt := 10) rfl (by decide) (by omega) ?_
  refine mm_iload_n rfl rfl ?_
  refine mm_bipush (v := nI 21) rfl (by decide) ?_
  refine mm_icmp_leN (tgt := 12) rfl (by decide) (by omega) (by omega) (fun h7 => ?_) (fun h7 => ?_)
  · refine mm_aload_n rfl rfl ?_
    refine mm_iload_n rfl rfl ?_
    refine mm_isV1 (M2 := qE_carryOut) wd_294 qE_carryOut_k (by decide) h rfl (by decide) (Nat.le_of_ble_eq_true rfl) (by decide) (by decide) rfl (by decide) ?_
    refine mm_istore_n rfl (by decide) ?_
    refine mm_iload_n rfl rfl ?_
    refine mm_if_lt (tgt := 27) rfl (by decide) (fun h19 => ?_) (fun h19 => ?_)
    · exact absurd h19 hr
    · refine mm_aload_n rfl rfl ?_
      refine mm_iload_n rfl rfl ?_
      refine mm_isV1 (M2 := qE_finish) wd_264 qE_finish_k (by decide) sE_finish rfl (by decide) (Nat.le_of_ble_eq_true rfl) (by decide) (by decide) rfl (by decide) ?_
      refine mm_iload_n rfl rfl ?_
      refine mm_ireturn rfl rfl rfl (by decide) (by decide) ?_
      exact ⟨rfl, rfl, rfl, rfl⟩
  · exact absurd h7 (by omega)
def ed_ch (c : Int32) : Prop := ed_ltc c = true ∨ c = nI 32 ∨ c = nI 10
set_option maxRecDepth 100000 in
set_option maxHeartbeats 4000000 in
theorem sE_typeX {E : mm_E} {G : mm_G} {J : mm_J} {c : Int32} (h : ¬ ed_ch c) : mm_Ret E qE_type [.ref 0, .int c] 86 J G (some (.int (-1))) 86 J G := by
  refine mm_Met.of qE_type_ok (by decide) (mm_cats rfl) (Nat.le_of_ble_eq_true rfl) ?_
  refine mm_iload_n rfl rfl ?_
  refine mm_isS1 (M2 := qE_isLetter) wd_215 qE_isLetter_k (by decide) sE_isLetter (Nat.le_of_ble_eq_true rfl) (by decide) (by decide) rfl (by decide) ?_
  refine mm_if_neN (tgt := 21) rfl (by decide) (ed_b31 _) (fun h4 => ?_) (fun h4 => ?_)
  · exact absurd (Or.inl (ed_bne h4)) h
  · refine mm_iload_n rfl rfl ?_
    refine mm_bipush (v := nI 32) rfl (by decide) ?_
    refine mm_icmp_eq (tgt := 21) rfl (by decide) (fun h10 => ?_) (fun h10 => ?_)
    · exact absurd (Or.inr (Or.inl h10)) h
    · refine mm_iload_n rfl rfl ?_
      refine mm_bipush (v := nI 10) rfl (by decide) ?_
      refine mm_icmp_eq (tgt := 21) rfl (by decide) (fun h16 => ?_) (fun h16 => ?_)
      · exact absurd (Or.inr (Or.inr h16)) h
      · refine mm_iconst (v := -1) rfl (by decide) ?_
        refine mm_ireturn rfl rfl rfl (by decide) (by decide) ?_
        exact ⟨rfl, rfl, rfl, rfl⟩
set_option maxRecDepth 100000 in
set_option maxHeartbeats 4000000 in
theorem sE_type0 {E : mm_E} {G : mm_G} {J : mm_J} (hG : mm_GI G) {c : Int32} (hc : ed_ch c) {r : Int32} {J2 : mm_J} {G2 : mm_G} (h : mm_Ret E qE_insert [.ref 0, .int c] 86 J G (some (.int r)) 86 J2 G2) (hr : r < 0) : mm_Ret E qE_type [.ref 0, .int c] 86 J G (some (.int r)) 86 J2 G2 := by
  refine mm_Met.of qE_type_ok (by decide) (mm_cats rfl) (Nat.le_of_ble_eq_true rfl) ?_
  refine mm_iload_n rfl rfl ?_
  refine mm_isS1 (M2 := qE_isLetter) wd_215 qE_isLetter_k (by decide) sE_isLetter (Nat.le_of_ble_eq_true rfl) (by decide) (by decide) rfl (by decide) ?_
  refine mm_if_neN (tgt := 21) rfl (by decide) (ed_b31 _) (fun h4 => ?_) (fun h4 => ?_)
  · refine mm_aload_n rfl rfl ?_
    refine mm_iload_n rfl rfl ?_
    refine mm_isV1 (M2 := qE_insert) wd_218 qE_insert_k (by decide) h rfl (by decide) (Nat.le_of_ble_eq_true rfl) (by decide) (by decide) rfl (by decide) ?_
    refine mm_istore_n rfl (by decide) ?_
    refine mm_iload_n rfl rfl ?_
    refine mm_if_lt (tgt := 40) rfl (by decide) (fun h28 => ?_) (fun h28 => ?_)
    · refine mm_iload_n rfl rfl ?_
      refine mm_ireturn rfl rfl rfl (by decide) (by decide) ?_
      exact ⟨rfl, rfl, rfl, rfl⟩
    · exact absurd hr h28
  · refine mm_iload_n rfl rfl ?_
    refine mm_bipush (v := nI 32) rfl (by decide) ?_
    refine mm_icmp_eq (tgt := 21) rfl (by decide) (fun h10 => ?_) (fun h10 => ?_)
    · refine mm_aload_n rfl rfl ?_
      refine mm_iload_n rfl rfl ?_
      refine mm_isV1 (M2 := qE_insert) wd_218 qE_insert_k (by decide) h rfl (by decide) (Nat.le_of_ble_eq_true rfl) (by decide) (by decide) rfl (by decide) ?_
      refine mm_istore_n rfl (by decide) ?_
      refine mm_iload_n rfl rfl ?_
      refine mm_if_lt (tgt := 40) rfl (by decide) (fun h28 => ?_) (fun h28 => ?_)
      · refine mm_iload_n rfl rfl ?_
        refine mm_ireturn rfl rfl rfl (by decide) (by decide) ?_
        exact ⟨rfl, rfl, rfl, rfl⟩
      · exact absurd hr h28
    · refine mm_iload_n rfl rfl ?_
      refine mm_bipush (v := nI 10) rfl (by decide) ?_
      refine mm_icmp_eq (tgt := 21) rfl (by decide) (fun h16 => ?_) (fun h16 => ?_)
      · refine mm_aload_n rfl rfl ?_
        refine mm_iload_n rfl rfl ?_
        refine mm_isV1 (M2 := qE_insert) wd_218 qE_insert_k (by decide) h rfl (by decide) (Nat.le_of_ble_eq_true rfl) (by decide) (by decide) rfl (by decide) ?_
        refine mm_istore_n rfl (by decide) ?_
        refine mm_iload_n rfl rfl ?_
        refine mm_if_lt (tgt := 40) rfl (by decide) (fun h28 => ?_) (fun h28 => ?_)
        · refine mm_iload_n rfl rfl ?_
          refine mm_ireturn rfl rfl rfl (by decide) (by decide) ?_
          exact ⟨rfl, rfl, rfl, rfl⟩
        · exact absurd hr h28
      · exact hc.elim (fun e => absurd e (by rw [ed_beq h4]; decide)) (fun e => e.elim (fun e => absurd e h10) (fun e => absurd e h16))
set_option maxRecDepth 100000 in
set_option maxHeartbeats 4000000 in
theorem sE_type1 {E : mm_E} {G : mm_G} {J : mm_J} (hG : mm_GI G) {c : Int32} (hc : ed_ch c) {r : Int32} {J2 : mm_J} {G2 : mm_G} (h : mm_Ret E qE_insert [.ref 0, .int c] 86 J G (some (.int r)) 86 J2 G2) (hr : ¬ r < 0) (hG2 : mm_GI G2) {J3 : mm_J} (hno : mm_Ret E qV_note [.ref 63, .int c, .int (nI 1)] 86 J2 G2 none 86 J3 G2) : mm_Ret E qE_type [.ref 0, .int c] 86 J G (some (.int r)) 86 J3 G2 := by
  refine mm_Met.of qE_type_ok (by decide) (mm_cats rfl) (Nat.le_of_ble_eq_true rfl) ?_
  refine mm_iload_n rfl rfl ?_
  refine mm_isS1 (M2 := qE_isLetter) wd_215 qE_isLetter_k (by decide) sE_isLetter (Nat.le_of_ble_eq_true rfl) (by decide) (by decide) rfl (by decide) ?_
  refine mm_if_neN (tgt := 21) rfl (by decide) (ed_b31 _) (fun h4 => ?_) (fun h4 => ?_)
  · refine mm_aload_n rfl rfl ?_
    refine mm_iload_n rfl rfl ?_
    refine mm_isV1 (M2 := qE_insert) wd_218 qE_insert_k (by decide) h rfl (by decide) (Nat.le_of_ble_eq_true rfl) (by decide) (by decide) rfl (by decide) ?_
    refine mm_istore_n rfl (by decide) ?_
    refine mm_iload_n rfl rfl ?_
    refine mm_if_lt (tgt := 40) rfl (by decide) (fun h28 => ?_) (fun h28 => ?_)
    · exact absurd h28 hr
    · refine mm_aload_n rfl rfl ?_
      refine mm_getR rfl rfl rfl (by decide) rfl (mm_gi hG2 0 4 63 (by decide)) ?_
      refine mm_iload_n rfl rfl ?_
      refine mm_iconst (v := nI 1) rfl (by decide) ?_
      refine mm_isV2 (M2 := qV_note) wd_268 qV_note_k (by decide) hno rfl (by decide) (Nat.le_of_ble_eq_true rfl) (by decide) (by decide) rfl (by decide) ?_
      refine mm_iload_n rfl rfl ?_
      refine mm_ireturn rfl rfl rfl (by decide) (by decide) ?_
      exact ⟨rfl, rfl, rfl, rfl⟩
  · refine mm_iload_n rfl rfl ?_
    refine mm_bipush (v := nI 32) rfl (by decide) ?_
    refine mm_icmp_eq (tgt := 21) rfl (by decide) (fun h10 => ?_) (fun h10 => ?_)
    · refine mm_aload_n rfl rfl ?_
      refine mm_iload_n rfl rfl ?_
      refine mm_isV1 (M2 := qE_insert) wd_218 qE_insert_k (by decide) h rfl (by decide) (Nat.le_of_ble_eq_true rfl) (by decide) (by decide) rfl (by decide) ?_
      refine mm_istore_n rfl (by decide) ?_
      refine mm_iload_n rfl rfl ?_
      refine mm_if_lt (tgt := 40) rfl (by decide) (fun h28 => ?_) (fun h28 => ?_)
      · exact absurd h28 hr
      · refine mm_aload_n rfl rfl ?_
        refine mm_getR rfl rfl rfl (by decide) rfl (mm_gi hG2 0 4 63 (by decide)) ?_
        refine mm_iload_n rfl rfl ?_
        refine mm_iconst (v := nI 1) rfl (by decide) ?_
        refine mm_isV2 (M2 := qV_note) wd_268 qV_note_k (by decide) hno rfl (by decide) (Nat.le_of_ble_eq_true rfl) (by decide) (by decide) rfl (by decide) ?_
        refine mm_iload_n rfl rfl ?_
        refine mm_ireturn rfl rfl rfl (by decide) (by decide) ?_
        exact ⟨rfl, rfl, rfl, rfl⟩
    · refine mm_iload_n rfl rfl ?_
      refine mm_bipush (v := nI 10) rfl (by decide) ?_
      refine mm_icmp_eq (tgt := 21) rfl (by decide) (fun h16 => ?_) (fun h16 => ?_)
      · refine mm_aload_n rfl rfl ?_
        refine mm_iload_n rfl rfl ?_
        refine mm_isV1 (M2 := qE_insert) wd_218 qE_insert_k (by decide) h rfl (by decide) (Nat.le_of_ble_eq_true rfl) (by decide) (by decide) rfl (by decide) ?_
        refine mm_istore_n rfl (by decide) ?_
        refine mm_iload_n rfl rfl ?_
        refine mm_if_lt (tgt := 40) rfl (by decide) (fun h28 => ?_) (fun h28 => ?_)
        · exact absurd h28 hr
        · refine mm_aload_n rfl rfl ?_
          refine mm_getR rfl rfl rfl (by decide) rfl (mm_gi hG2 0 4 63 (by decide)) ?_
          refine mm_iload_n rfl rfl ?_
          refine mm_iconst (v := nI 1) rfl (by decide) ?_
          refine mm_isV2 (M2 := qV_note) wd_268 qV_note_k (by decide) hno rfl (by decide) (Nat.le_of_ble_eq_true rfl) (by decide) (by decide) rfl (by decide) ?_
          refine mm_iload_n rfl rfl ?_
          refine mm_ireturn rfl rfl rfl (by decide) (by decide) ?_
          exact ⟨rfl, rfl, rfl, rfl⟩
      · exact hc.elim (fun e => absurd e (by rw [ed_beq h4]; decide)) (fun e => e.elim (fun e => absurd e h10) (fun e => absurd e h16))
set_option maxRecDepth 100000 in
set_option maxHeartbeats 4000000 in
theorem sE_commandX {E : mm_E} {G : mm_G} {J : mm_J} {x : Int32} (h : x < 0 ∨ nI 21 < x) : mm_Ret E qE_command [.ref 0, .int x] 86 J G (some (.int (-1))) 86 J G := by
  refine mm_Met.of qE_command_ok (by decide) (mm_cats rfl) (Nat.le_of_ble_eq_true rfl) ?_
  refine mm_iload_n rfl rfl ?_
  refine mm_if_lt (tgt := 10) rfl (by decide) (fun h1 => ?_) (fun h1 => ?_)
  · refine mm_iconst (v := -1) rfl (by decide) ?_
    refine mm_ireturn rfl rfl rfl (by decide) (by decide) ?_
    exact ⟨rfl, rfl, rfl, rfl⟩
  · refine mm_iload_n rfl rfl ?_
    refine mm_bipush (v := nI 21) rfl (by decide) ?_
    refine mm_icmp_le (tgt := 12) rfl (by decide) (fun h7 => ?_) (fun h7 => ?_)
    · exact h.elim (fun q => absurd q h1) (fun q => absurd h7 (Int32.not_le.mpr q))
    · refine mm_iconst (v := -1) rfl (by decide) ?_
      refine mm_ireturn rfl rfl rfl (by decide) (by decide) ?_
      exact ⟨rfl, rfl, rfl, rfl⟩
set_option maxRecDepth 100000 in
set_option maxHeartbeats 4000000 in
theorem sE_command21 {E : mm_E} {G : mm_G} {J : mm_J} {r : Int32} {J2 : mm_J} {G2 : mm_G} (h : mm_Ret E qE_replay [.ref 0] 86 J G (some (.int r)) 86 J2 G2) : mm_Ret E qE_command [.ref 0, .int (nI 21)] 86 J G (some (.int r)) 86 J2 G2 := by
  refine mm_Met.of qE_command_ok (by decide) (mm_cats rfl) (Nat.le_of_ble_eq_true rfl) ?_
  refine mm_iload_n rfl rfl ?_
  refine mm_if_ltN (tgt := 10) rfl (by decide) (by omega) ?_
  refine mm_iload_n rfl rfl ?_
  refine mm_bipush (v := nI 21) rfl (by decide) ?_
  refine mm_icmp_leN (tgt := 12) rfl (by decide) (by decide) (by decide) (fun h7 => ?_) (fun h7 => ?_)
  · refine mm_iload_n rfl rfl ?_
    refine mm_bipush (v := nI 21) rfl (by decide) ?_
    refine mm_icmp_neN (tgt := 25) rfl (by decide) (by decide) (by decide) (fun h15 => ?_) (fun h15 => ?_)
    · exact absurd rfl h15
    · refine mm_aload_n rfl rfl ?_
      refine mm_isV0 (M2 := qE_replay) wd_276 qE_replay_k (by decide) h rfl (by decide) (Nat.le_of_ble_eq_true rfl) (by decide) (by decide) rfl (by decide) ?_
      refine mm_goto (tgt := 30) rfl (by decide) ?_
      refine mm_ireturn rfl rfl rfl (by decide) (by decide) ?_
      exact ⟨rfl, rfl, rfl, rfl⟩
  · exact absurd h7 (by decide)
set_option maxRecDepth 100000 in
set_option maxHeartbeats 4000000 in
theorem sE_commandP {E : mm_E} {G : mm_G} {J : mm_J} {k : Nat} (hk : k < 21) {r : Int32} {J2 : mm_J} {G2 : mm_G} (h : mm_Ret E qE_perform [.ref 0, .int (nI k)] 86 J G (some (.int r)) 86 J2 G2) : mm_Ret E qE_command [.ref 0, .int (nI k)] 86 J G (some (.int r)) 86 J2 G2 := by
  refine mm_Met.of qE_command_ok (by decide) (mm_cats rfl) (Nat.le_of_ble_eq_true rfl) ?_
  refine mm_iload_n rfl rfl ?_
  refine mm_if_ltN (tgt := 10) rfl (by decide) (by omega) ?_
  refine mm_iload_n rfl rfl ?_
  refine mm_bipush (v := nI 21) rfl (by decide) ?_
  refine mm_icmp_leN (tgt := 12) rfl (by decide) (by omega) (by omega) (fun h7 => ?_) (fun h7 => ?_)
  · refine mm_iload_n rfl rfl ?_
    refine mm_bipush (v := nI 21) rfl (by decide) ?_
    refine mm_icmp_neN (tgt := 25) rfl (by decide) (by omega) (by omega) (fun h15 => ?_) (fun h15 => ?_)
    · refine mm_aload_n rfl rfl ?_
      refine mm_iload_n rfl rfl ?_
      refine mm_isV1 (M2 := qE_perform) wd_290 qE_perform_k (by decide) h rfl (by decide) (Nat.le_of_ble_eq_true rfl) (by decide) (by decide) rfl (by decide) ?_
      refine mm_ireturn rfl rfl rfl (by decide) (by decide) ?_
      exact ⟨rfl, rfl, rfl, rfl⟩
    · exact absurd h15 (by omega)
  · exact absurd h7 (by omega)
set_option maxRecDepth 100000 in
set_option maxHeartbeats 4000000 in
theorem sE_pressX {E : mm_E} {G : mm_G} {J : mm_J} {x : Int32} (h : ed_ky x = false) : mm_Ret E qE_press [.ref 0, .int x] 86 J G (some (.int (-1))) 86 J G := by
  refine mm_Met.of qE_press_ok (by decide) (mm_cats rfl) (Nat.le_of_ble_eq_true rfl) ?_
  refine mm_iload_n rfl rfl ?_
  refine mm_isS1 (M2 := qE_isKey) wd_420 qE_isKey_k (by decide) sE_isKey (Nat.le_of_ble_eq_true rfl) (by decide) (by decide) rfl (by decide) ?_
  refine mm_if_neN (tgt := 9) rfl (by decide) (ed_b31 _) (fun h4 => ?_) (fun h4 => ?_)
  · exact absurd (ed_bne h4) (by rw [h]; decide)
  · refine mm_iconst (v := -1) rfl (by decide) ?_
    refine mm_ireturn rfl rfl rfl (by decide) (by decide) ?_
    exact ⟨rfl, rfl, rfl, rfl⟩
set_option maxRecDepth 100000 in
set_option maxHeartbeats 4000000 in
theorem sE_press210 {E : mm_E} {G : mm_G} {J : mm_J} (hG : mm_GI G) {x : Int32} (hx : ed_ky x = true) {cal : Int32} {J1 : mm_J} (hs : mm_Ret E qY_stroke [.ref 60, .int x] 86 J G (some (.int cal)) 86 J1 G) {r : Int32} {J2 : mm_J} {G2 : mm_G} (hc : cal = nI 21) (h : mm_Ret E qE_replay [.ref 0] 86 J1 G (some (.int r)) 86 J2 G2) (hr : r < 0) : mm_Ret E qE_press [.ref 0, .int x] 86 J G (some (.int r)) 86 J2 G2 := by
  refine mm_Met.of qE_press_ok (by decide) (mm_cats rfl) (Nat.le_of_ble_eq_true rfl) ?_
  refine mm_iload_n rfl rfl ?_
  refine mm_isS1 (M2 := qE_isKey) wd_420 qE_isKey_k (by decide) sE_isKey (Nat.le_of_ble_eq_true rfl) (by decide) (by decide) rfl (by decide) ?_
  refine mm_if_neN (tgt := 9) rfl (by decide) (ed_b31 _) (fun h4 => ?_) (fun h4 => ?_)
  · refine mm_aload_n rfl rfl ?_
    refine mm_getR rfl rfl rfl (by decide) rfl (mm_gi hG 0 3 60 (by decide)) ?_
    refine mm_iload_n rfl rfl ?_
    refine mm_isV1 (M2 := qY_stroke) wd_280 qY_stroke_k (by decide) hs rfl (by decide) (Nat.le_of_ble_eq_true rfl) (by decide) (by decide) rfl (by decide) ?_
    refine mm_istore_n rfl (by decide) ?_
    refine mm_iload_n rfl rfl ?_
    refine mm_bipush (v := nI 21) rfl (by decide) ?_
    refine mm_icmp_ne (tgt := 31) rfl (by decide) (fun h21 => ?_) (fun h21 => ?_)
    · exact absurd hc h21
    · refine mm_aload_n rfl rfl ?_
      refine mm_isV0 (M2 := qE_replay) wd_276 qE_replay_k (by decide) h rfl (by decide) (Nat.le_of_ble_eq_true rfl) (by decide) (by decide) rfl (by decide) ?_
      refine mm_goto (tgt := 36) rfl (by decide) ?_
      refine mm_istore_n rfl (by decide) ?_
      refine mm_iload_n rfl rfl ?_
      refine mm_if_lt (tgt := 50) rfl (by decide) (fun h38 => ?_) (fun h38 => ?_)
      · refine mm_iload_n rfl rfl ?_
        refine mm_ireturn rfl rfl rfl (by decide) (by decide) ?_
        exact ⟨rfl, rfl, rfl, rfl⟩
      · exact absurd hr h38
  · exact absurd hx (by rw [ed_beq h4]; decide)
set_option maxRecDepth 100000 in
set_option maxHeartbeats 4000000 in
theorem sE_press211 {E : mm_E} {G : mm_G} {J : mm_J} (hG : mm_GI G) {x : Int32} (hx : ed_ky x = true) {cal : Int32} {J1 : mm_J} (hs : mm_Ret E qY_stroke [.ref 60, .int x] 86 J G (some (.int cal)) 86 J1 G) {r : Int32} {J2 : mm_J} {G2 : mm_G} (hc : cal = nI 21) (h : mm_Ret E qE_replay [.ref 0] 86 J1 G (some (.int r)) 86 J2 G2) (hr : ¬ r < 0) (hG2 : mm_GI G2) {J3 : mm_J} (hno : mm_Ret E qV_note [.ref 63, .int x, .int (nI 0)] 86 J2 G2 none 86 J3 G2) : mm_Ret E qE_press [.ref 0, .int x] 86 J G (some (.int r)) 86 J3 G2 := by
  refine mm_Met.of qE_press_ok (by decide) (mm_cats rfl) (Nat.le_of_ble_eq_true rfl) ?_
  refine mm_iload_n rfl rfl ?_
  refine mm_isS1 (M2 := qE_isKey) wd_420 qE_isKey_k (by decide) sE_isKey (Nat.le_of_ble_eq_true rfl) (by decide) (by decide) rfl (by decide) ?_
  refine mm_if_neN (tgt := 9) rfl (by decide) (ed_b31 _) (fun h4 => ?_) (fun h4 => ?_)
  · refine mm_aload_n rfl rfl ?_
    refine mm_getR rfl rfl rfl (by decide) rfl (mm_gi hG 0 3 60 (by decide)) ?_
    refine mm_iload_n rfl rfl ?_
    refine mm_isV1 (M2 := qY_stroke) wd_280 qY_stroke_k (by decide) hs rfl (by decide) (Nat.le_of_ble_eq_true rfl) (by decide) (by decide) rfl (by decide) ?_
    refine mm_istore_n rfl (by decide) ?_
    refine mm_iload_n rfl rfl ?_
    refine mm_bipush (v := nI 21) rfl (by decide) ?_
    refine mm_icmp_ne (tgt := 31) rfl (by decide) (fun h21 => ?_) (fun h21 => ?_)
    · exact absurd hc h21
    · refine mm_aload_n rfl rfl ?_
      refine mm_isV0 (M2 := qE_replay) wd_276 qE_replay_k (by decide) h rfl (by decide) (Nat.le_of_ble_eq_true rfl) (by decide) (by decide) rfl (by decide) ?_
      refine mm_goto (tgt := 36) rfl (by decide) ?_
      refine mm_istore_n rfl (by decide) ?_
      refine mm_iload_n rfl rfl ?_
      refine mm_if_lt (tgt := 50) rfl (by decide) (fun h38 => ?_) (fun h38 => ?_)
      · exact absurd h38 hr
      · refine mm_aload_n rfl rfl ?_
        refine mm_getR rfl rfl rfl (by decide) rfl (mm_gi hG2 0 4 63 (by decide)) ?_
        refine mm_iload_n rfl rfl ?_
        refine mm_iconst (v := nI 0) rfl (by decide) ?_
        refine mm_isV2 (M2 := qV_note) wd_268 qV_note_k (by decide) hno rfl (by decide) (Nat.le_of_ble_eq_true rfl) (by decide) (by decide) rfl (by decide) ?_
        refine mm_iload_n rfl rfl ?_
        refine mm_ireturn rfl rfl rfl (by decide) (by decide) ?_
        exact ⟨rfl, rfl, rfl, rfl⟩
  · exact absurd hx (by rw [ed_beq h4]; decide)
set_option maxRecDepth 100000 in
set_option maxHeartbeats 4000000 in
theorem sE_pressP0 {E : mm_E} {G : mm_G} {J : mm_J} (hG : mm_GI G) {x : Int32} (hx : ed_ky x = true) {cal : Int32} {J1 : mm_J} (hs : mm_Ret E qY_stroke [.ref 60, .int x] 86 J G (some (.int cal)) 86 J1 G) {r : Int32} {J2 : mm_J} {G2 : mm_G} (hc : ¬ cal = nI 21) (h : mm_Ret E qE_perform [.ref 0, .int cal] 86 J1 G (some (.int r)) 86 J2 G2) (hr : r < 0) : mm_Ret E qE_press [.ref 0, .int x] 86 J G (some (.int r)) 86 J2 G2 := by
  refine mm_Met.of qE_press_ok (by decide) (mm_cats rfl) (Nat.le_of_ble_eq_true rfl) ?_
  refine mm_iload_n rfl rfl ?_
  refine mm_isS1 (M2 := qE_isKey) wd_420 qE_isKey_k (by decide) sE_isKey (Nat.le_of_ble_eq_true rfl) (by decide) (by decide) rfl (by decide) ?_
  refine mm_if_neN (tgt := 9) rfl (by decide) (ed_b31 _) (fun h4 => ?_) (fun h4 => ?_)
  · refine mm_aload_n rfl rfl ?_
    refine mm_getR rfl rfl rfl (by decide) rfl (mm_gi hG 0 3 60 (by decide)) ?_
    refine mm_iload_n rfl rfl ?_
    refine mm_isV1 (M2 := qY_stroke) wd_280 qY_stroke_k (by decide) hs rfl (by decide) (Nat.le_of_ble_eq_true rfl) (by decide) (by decide) rfl (by decide) ?_
    refine mm_istore_n rfl (by decide) ?_
    refine mm_iload_n rfl rfl ?_
    refine mm_bipush (v := nI 21) rfl (by decide) ?_
    refine mm_icmp_ne (tgt := 31) rfl (by decide) (fun h21 => ?_) (fun h21 => ?_)
    · refine mm_aload_n rfl rfl ?_
      refine mm_iload_n rfl rfl ?_
      refine mm_isV1 (M2 := qE_perform) wd_290 qE_perform_k (by decide) h rfl (by decide) (Nat.le_of_ble_eq_true rfl) (by decide) (by decide) rfl (by decide) ?_
      refine mm_istore_n rfl (by decide) ?_
      refine mm_iload_n rfl rfl ?_
      refine mm_if_lt (tgt := 50) rfl (by decide) (fun h38 => ?_) (fun h38 => ?_)
      · refine mm_iload_n rfl rfl ?_
        refine mm_ireturn rfl rfl rfl (by decide) (by decide) ?_
        exact ⟨rfl, rfl, rfl, rfl⟩
      · exact absurd hr h38
    · exact absurd h21 hc
  · exact absurd hx (by rw [ed_beq h4]; decide)
set_option maxRecDepth 100000 in
set_option maxHeartbeats 4000000 in
theorem sE_pressP1 {E : mm_E} {G : mm_G} {J : mm_J} (hG : mm_GI G) {x : Int32} (hx : ed_ky x = true) {cal : Int32} {J1 : mm_J} (hs : mm_Ret E qY_stroke [.ref 60, .int x] 86 J G (some (.int cal)) 86 J1 G) {r : Int32} {J2 : mm_J} {G2 : mm_G} (hc : ¬ cal = nI 21) (h : mm_Ret E qE_perform [.ref 0, .int cal] 86 J1 G (some (.int r)) 86 J2 G2) (hr : ¬ r < 0) (hG2 : mm_GI G2) {J3 : mm_J} (hno : mm_Ret E qV_note [.ref 63, .int x, .int (nI 0)] 86 J2 G2 none 86 J3 G2) : mm_Ret E qE_press [.ref 0, .int x] 86 J G (some (.int r)) 86 J3 G2 := by
  refine mm_Met.of qE_press_ok (by decide) (mm_cats rfl) (Nat.le_of_ble_eq_true rfl) ?_
  refine mm_iload_n rfl rfl ?_
  refine mm_isS1 (M2 := qE_isKey) wd_420 qE_isKey_k (by decide) sE_isKey (Nat.le_of_ble_eq_true rfl) (by decide) (by decide) rfl (by decide) ?_
  refine mm_if_neN (tgt := 9) rfl (by decide) (ed_b31 _) (fun h4 => ?_) (fun h4 => ?_)
  · refine mm_aload_n rfl rfl ?_
    refine mm_getR rfl rfl rfl (by decide) rfl (mm_gi hG 0 3 60 (by decide)) ?_
    refine mm_iload_n rfl rfl ?_
    refine mm_isV1 (M2 := qY_stroke) wd_280 qY_stroke_k (by decide) hs rfl (by decide) (Nat.le_of_ble_eq_true rfl) (by decide) (by decide) rfl (by decide) ?_
    refine mm_istore_n rfl (by decide) ?_
    refine mm_iload_n rfl rfl ?_
    refine mm_bipush (v := nI 21) rfl (by decide) ?_
    refine mm_icmp_ne (tgt := 31) rfl (by decide) (fun h21 => ?_) (fun h21 => ?_)
    · refine mm_aload_n rfl rfl ?_
      refine mm_iload_n rfl rfl ?_
      refine mm_isV1 (M2 := qE_perform) wd_290 qE_perform_k (by decide) h rfl (by decide) (Nat.le_of_ble_eq_true rfl) (by decide) (by decide) rfl (by decide) ?_
      refine mm_istore_n rfl (by decide) ?_
      refine mm_iload_n rfl rfl ?_
      refine mm_if_lt (tgt := 50) rfl (by decide) (fun h38 => ?_) (fun h38 => ?_)
      · exact absurd h38 hr
      · refine mm_aload_n rfl rfl ?_
        refine mm_getR rfl rfl rfl (by decide) rfl (mm_gi hG2 0 4 63 (by decide)) ?_
        refine mm_iload_n rfl rfl ?_
        refine mm_iconst (v := nI 0) rfl (by decide) ?_
        refine mm_isV2 (M2 := qV_note) wd_268 qV_note_k (by decide) hno rfl (by decide) (Nat.le_of_ble_eq_true rfl) (by decide) (by decide) rfl (by decide) ?_
        refine mm_iload_n rfl rfl ?_
        refine mm_ireturn rfl rfl rfl (by decide) (by decide) ?_
        exact ⟨rfl, rfl, rfl, rfl⟩
    · exact absurd h21 hc
  · exact absurd hx (by rw [ed_beq h4]; decide)
