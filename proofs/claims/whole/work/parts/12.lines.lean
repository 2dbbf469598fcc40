theorem ed_below_le {f : Nat → Int32} {n : Nat} : ∀ k b, b ≤ n → ed_below f n k b ≤ n
  | 0, b, h => h
  | k + 1, b, h => by
    have h1 := ed_le_le (f := f) h
    unfold ed_below
    split
    · exact ed_below_le k _ (by omega)
    · exact ed_below_le k _ h
theorem ed_above_le {f : Nat → Int32} : ∀ k b, ed_above f k b ≤ b
  | 0, b => Nat.le_refl b
  | k + 1, b => by
    unfold ed_above
    split
    · have h1 := ed_above_le (f := f) k (ed_lb f (b - 1))
      have h2 := ed_lb_le (f := f) (p := b - 1)
      omega
    · omega
set_option maxRecDepth 100000 in
set_option maxHeartbeats 4000000 in
theorem lT_beginningBelow {E : mm_E} {G : mm_G} {J : mm_J} (hG : mm_GI G) {n : Nat} (hn : J 2 1 = nI n) (hn2 : n ≤ 100) {p0 l : Nat} (hl : l ≤ 9) : ∀ (k b i : Nat) (z : Option Value), l - i = k → i ≤ l → b ≤ n → mm_Go E qT_beginningBelow 9 [some (.ref 1), some (.int (nI p0)), some (.int (nI l)), some (.int (nI b)), some (.int (nI i)), z] [] 86 J G 0 0 (mm_Fm E qT_beginningBelow (mm_is (some (.int (nI (ed_below (J 3) n k b)))) 86 J G))
  | 0, b, i, z, hk, hi, hb => by
    refine mm_iload rfl rfl ?_
    refine mm_iload_n rfl rfl ?_
    refine mm_icmp_geN (tgt := 49) rfl (by decide) (by omega) (by omega) (fun h12 => ?_) (fun h12 => ?_)
    · refine mm_iload_n rfl rfl ?_
      refine mm_ireturn rfl rfl rfl (by decide) (by decide) ?_
      exact ⟨rfl, rfl, rfl, rfl⟩
    · exact absurd h12 (by omega)
  | k + 1, b, i, z, hk, hi, hb => by
    refine mm_iload rfl rfl ?_
    refine mm_iload_n rfl rfl ?_
    refine mm_icmp_geN (tgt := 49) rfl (by decide) (by omega) (by omega) (fun h12 => ?_) (fun h12 => ?_)
    · exact absurd h12 (by omega)
    · refine mm_aload_n rfl rfl ?_
      refine mm_iload_n rfl rfl ?_
      refine mm_isV1 (M2 := qT_lineEnd) wd_316 qT_lineEnd_k (by decide) (sT_lineEnd hG hn hn2 hb) rfl (by decide) (Nat.le_of_ble_eq_true rfl) (by decide) (by decide) rfl (by decide) ?_
      have hle := ed_le_le (f := J 3) hb
      refine mm_istore rfl (by decide) ?_
      refine mm_iload rfl rfl ?_
      refine mm_aload_n rfl rfl ?_
      refine mm_getR rfl rfl rfl (by decide) rfl (mm_gi hG 1 0 2 (by decide)) ?_
      refine mm_getI (x := nI n) rfl rfl rfl (by decide) rfl hn ?_
      refine mm_icmp_geN (tgt := 41) rfl (by decide) (by omega) (by omega) (fun h31 => ?_) (fun h31 => ?_)
      · refine mm_iload_n rfl rfl ?_
        refine mm_istore_n rfl (by decide) ?_
        refine mm_iincN rfl rfl (mm_inc1 _) (by decide) ?_
        refine mm_goto (tgt := 9) rfl (by decide) ?_
        rw [show ed_below (J 3) n (k + 1) b = ed_below (J 3) n k b from by rw [ed_below, if_neg (by omega)]]
        exact lT_beginningBelow hG hn hn2 hl k b (i + 1) _ (by omega) (by omega) (by omega)
      · refine mm_iload rfl rfl ?_
        refine mm_iconst (v := nI 1) rfl (by decide) ?_
        refine mm_iaddN rfl ?_
        refine mm_goto (tgt := 42) rfl (by decide) ?_
        refine mm_istore_n rfl (by decide) ?_
        refine mm_iincN rfl rfl (mm_inc1 _) (by decide) ?_
        refine mm_goto (tgt := 9) rfl (by decide) ?_
        rw [show ed_below (J 3) n (k + 1) b = ed_below (J 3) n k (ed_le (J 3) n b + 1) from by rw [ed_below, if_pos (by omega)]]
        exact lT_beginningBelow hG hn hn2 hl k (ed_le (J 3) n b + 1) (i + 1) _ (by omega) (by omega) (by omega)
set_option maxRecDepth 100000 in
set_option maxHeartbeats 4000000 in
theorem sT_beginningBelow {E : mm_E} {G : mm_G} {J : mm_J} (hG : mm_GI G) {n : Nat} (hn : J 2 1 = nI n) (hn2 : n ≤ 100) {p0 l : Nat} (hl : l ≤ 9) (hp : p0 ≤ n) : mm_Ret E qT_beginningBelow [.ref 1, .int (nI p0), .int (nI l)] 86 J G (some (.int (nI (ed_below (J 3) n l (ed_lb (J 3) p0))))) 86 J G := by
  refine mm_Met.of qT_beginningBelow_ok (by decide) (mm_cats rfl) (Nat.le_of_ble_eq_true rfl) ?_
  refine mm_aload_n rfl rfl ?_
  refine mm_iload_n rfl rfl ?_
  refine mm_isV1 (M2 := qT_lineBeginning) wd_312 qT_lineBeginning_k (by decide) (sT_lineBeginning hG (by omega)) rfl (by decide) (Nat.le_of_ble_eq_true rfl) (by decide) (by decide) rfl (by decide) ?_
  have hlb := ed_lb_le (f := J 3) (p := p0)
  refine mm_istore_n rfl (by decide) ?_
  refine mm_iconst (v := nI 0) rfl (by decide) ?_
  refine mm_istore rfl (by decide) ?_
  exact lT_beginningBelow hG hn hn2 hl l (ed_lb (J 3) p0) 0 none rfl (by omega) (by omega)
set_option maxRecDepth 100000 in
set_option maxHeartbeats 4000000 in
theorem lT_beginningAbove {E : mm_E} {G : mm_G} {J : mm_J} (hG : mm_GI G) {p0 l : Nat} (hl : l ≤ 9) : ∀ (k b i : Nat), l - i = k → i ≤ l → b ≤ 100 → mm_Go E qT_beginningAbove 9 [some (.ref 1), some (.int (nI p0)), some (.int (nI l)), some (.int (nI b)), some (.int (nI i))] [] 86 J G 0 0 (mm_Fm E qT_beginningAbove (mm_is (some (.int (nI (ed_above (J 3) k b)))) 86 J G))
  | 0, b, i, hk, hi, hb => by
    refine mm_iload rfl rfl ?_
    refine mm_iload_n rfl rfl ?_
    refine mm_icmp_geN (tgt := 33) rfl (by decide) (by omega) (by omega) (fun h12 => ?_) (fun h12 => ?_)
    · refine mm_iload_n rfl rfl ?_
      refine mm_ireturn rfl rfl rfl (by decide) (by decide) ?_
      exact ⟨rfl, rfl, rfl, rfl⟩
    · exact absurd h12 (by omega)
  | k + 1, b, i, hk, hi, hb => by
    refine mm_iload rfl rfl ?_
    refine mm_iload_n rfl rfl ?_
    refine mm_icmp_geN (tgt := 33) rfl (by decide) (by omega) (by omega) (fun h12 => ?_) (fun h12 => ?_)
    · exact absurd h12 (by omega)
    · refine mm_iload_n rfl rfl ?_
      refine mm_if_leN (tgt := 33) rfl (by decide) (by omega) (fun h16 => ?_) (fun h16 => ?_)
      · refine mm_iload_n rfl rfl ?_
        refine mm_ireturn rfl rfl rfl (by decide) (by decide) ?_
        exact ⟨by rw [show ed_above (J 3) (k + 1) b = b from by rw [ed_above, if_neg (by omega)]], rfl, rfl, rfl⟩
      · refine mm_aload_n rfl rfl ?_
        refine mm_iload_n rfl rfl ?_
        refine mm_iconst (v := nI 1) rfl (by decide) ?_
        refine mm_isubN rfl (by omega) ?_
        refine mm_isV1 (M2 := qT_lineBeginning) wd_312 qT_lineBeginning_k (by decide) (sT_lineBeginning hG (by omega)) rfl (by decide) (Nat.le_of_ble_eq_true rfl) (by decide) (by decide) rfl (by decide) ?_
        have hlb := ed_lb_le (f := J 3) (p := b - 1)
        refine mm_istore_n rfl (by decide) ?_
        refine mm_iincN rfl rfl (mm_inc1 _) (by decide) ?_
        refine mm_goto (tgt := 9) rfl (by decide) ?_
        rw [show ed_above (J 3) (k + 1) b = ed_above (J 3) k (ed_lb (J 3) (b - 1)) from by rw [ed_above, if_pos (by omega)]]
        exact lT_beginningAbove hG hl k (ed_lb (J 3) (b - 1)) (i + 1) (by omega) (by omega) (by omega)
set_option maxRecDepth 100000 in
set_option maxHeartbeats 4000000 in
theorem sT_beginningAbove {E : mm_E} {G : mm_G} {J : mm_J} (hG : mm_GI G) {p0 l : Nat} (hl : l ≤ 9) (hp : p0 ≤ 100) : mm_Ret E qT_beginningAbove [.ref 1, .int (nI p0), .int (nI l)] 86 J G (some (.int (nI (ed_above (J 3) l (ed_lb (J 3) p0))))) 86 J G := by
  refine mm_Met.of qT_beginningAbove_ok (by decide) (mm_cats rfl) (Nat.le_of_ble_eq_true rfl) ?_
  refine mm_aload_n rfl rfl ?_
  refine mm_iload_n rfl rfl ?_
  refine mm_isV1 (M2 := qT_lineBeginning) wd_312 qT_lineBeginning_k (by decide) (sT_lineBeginning hG (by omega)) rfl (by decide) (Nat.le_of_ble_eq_true rfl) (by decide) (by decide) rfl (by decide) ?_
  have hlb := ed_lb_le (f := J 3) (p := p0)
  refine mm_istore_n rfl (by decide) ?_
  refine mm_iconst (v := nI 0) rfl (by decide) ?_
  refine mm_istore rfl (by decide) ?_
  exact lT_beginningAbove hG hl l (ed_lb (J 3) p0) 0 rfl (by omega) (by omega)
theorem ed_bne {b : Bool} (h : ¬ ed_b b = 0) : b = true := by
  cases b
  · exact absurd rfl h
  · rfl
theorem ed_beq {b : Bool} (h : ed_b b = 0) : b = false := by
  cases b
  · rfl
  · exact absurd h (by decide)
theorem ed_b31 (b : Bool) : ed_b b < 2 ^ 31 := by cases b <;> decide
theorem ed_nlt_y {f : Nat → Int32} {i : Nat} (h : ed_ltc (f i) = false) : ed_nlt f i = true := by unfold ed_nlt; rw [h]; rfl
theorem ed_nlt_n {f : Nat → Int32} {i : Nat} (h : ed_ltc (f i) = true) : ed_nlt f i = false := by unfold ed_nlt; rw [h]; rfl
set_option maxRecDepth 100000 in
set_option maxHeartbeats 4000000 in
theorem lT_bw1 {E : mm_E} {G : mm_G} {J : mm_J} (hG : mm_GI G) {n : Nat} (hn : J 2 1 = nI n) (hn2 : n ≤ 100) {p0 l : Nat} : ∀ (k p i : Nat) (F : mm_F), n - p = k → p ≤ n → (kk : mm_Go E qT_behindWords 43 [some (.ref 1), some (.int (nI p0)), some (.int (nI l)), some (.int (nI (ed_up (ed_nlt (J 3)) k p))), some (.int (nI i))] [] 86 J G 0 0 F) → mm_Go E qT_behindWords 11 [some (.ref 1), some (.int (nI p0)), some (.int (nI l)), some (.int (nI p)), some (.int (nI i))] [] 86 J G 0 0 F
  | 0, p, i, F, hk, hp, kk => by
    refine mm_iload_n rfl rfl ?_
    refine mm_aload_n rfl rfl ?_
    refine mm_getR rfl rfl rfl (by decide) rfl (mm_gi hG 1 0 2 (by decide)) ?_
    refine mm_getI (x := nI n) rfl rfl rfl (by decide) rfl hn ?_
    refine mm_icmp_geN (tgt := 43) rfl (by decide) (by omega) (by omega) (fun h19 => ?_) (fun h19 => ?_)
    · exact kk
    · exact absurd h19 (by omega)
  | k + 1, p, i, F, hk, hp, kk => by
    refine mm_iload_n rfl rfl ?_
    refine mm_aload_n rfl rfl ?_
    refine mm_getR rfl rfl rfl (by decide) rfl (mm_gi hG 1 0 2 (by decide)) ?_
    refine mm_getI (x := nI n) rfl rfl rfl (by decide) rfl hn ?_
    refine mm_icmp_geN (tgt := 43) rfl (by decide) (by omega) (by omega) (fun h19 => ?_) (fun h19 => ?_)
    · exact absurd h19 (by omega)
    · refine mm_aload_n rfl rfl ?_
      refine mm_getR rfl rfl rfl (by decide) rfl (mm_gi hG 1 0 2 (by decide)) ?_
      refine mm_getR rfl rfl rfl (by decide) rfl (mm_gi hG 2 0 3 (by decide)) ?_
      refine mm_iload_n rfl rfl ?_
      refine mm_rdN rfl (by decide) rfl (by decide) (by omega) (by decide) rfl rfl ?_
      refine mm_isN1 (M2 := qE_isLetter) (fun _ h => h.2) qE_isLetter_k (by decide) sE_isLetter (Nat.le_of_ble_eq_true rfl) (by decide) (by decide) rfl (by decide) ?_
      refine mm_if_neN (tgt := 43) rfl (by decide) (ed_b31 _) (fun h34 => ?_) (fun h34 => ?_)
      · rw [ed_up_n (ed_nlt_n (ed_bne h34))] at kk
        exact kk
      · refine mm_iincN rfl rfl (mm_inc1 _) (by decide) ?_
        refine mm_goto (tgt := 11) rfl (by decide) ?_
        rw [ed_up_y (ed_nlt_y (ed_beq h34))] at kk
        exact lT_bw1 hG hn hn2 k (p + 1) i F (by omega) (by omega) kk
set_option maxRecDepth 100000 in
set_option maxHeartbeats 4000000 in
theorem lT_bw2 {E : mm_E} {G : mm_G} {J : mm_J} (hG : mm_GI G) {n : Nat} (hn : J 2 1 = nI n) (hn2 : n ≤ 100) {p0 l : Nat} : ∀ (k p i : Nat) (F : mm_F), n - p = k → p ≤ n → (kk : mm_Go E qT_behindWords 75 [some (.ref 1), some (.int (nI p0)), some (.int (nI l)), some (.int (nI (ed_up (ed_lt (J 3)) k p))), some (.int (nI i))] [] 86 J G 0 0 F) → mm_Go E qT_behindWords 43 [some (.ref 1), some (.int (nI p0)), some (.int (nI l)), some (.int (nI p)), some (.int (nI i))] [] 86 J G 0 0 F
  | 0, p, i, F, hk, hp, kk => by
    refine mm_iload_n rfl rfl ?_
    refine mm_aload_n rfl rfl ?_
    refine mm_getR rfl rfl rfl (by decide) rfl (mm_gi hG 1 0 2 (by decide)) ?_
    refine mm_getI (x := nI n) rfl rfl rfl (by decide) rfl hn ?_
    refine mm_icmp_geN (tgt := 75) rfl (by decide) (by omega) (by omega) (fun h51 => ?_) (fun h51 => ?_)
    · exact kk
    · exact absurd h51 (by omega)
  | k + 1, p, i, F, hk, hp, kk => by
    refine mm_iload_n rfl rfl ?_
    refine mm_aload_n rfl rfl ?_
    refine mm_getR rfl rfl rfl (by decide) rfl (mm_gi hG 1 0 2 (by decide)) ?_
    refine mm_getI (x := nI n) rfl rfl rfl (by decide) rfl hn ?_
    refine mm_icmp_geN (tgt := 75) rfl (by decide) (by omega) (by omega) (fun h51 => ?_) (fun h51 => ?_)
    · exact absurd h51 (by omega)
    · refine mm_aload_n rfl rfl ?_
      refine mm_getR rfl rfl rfl (by decide) rfl (mm_gi hG 1 0 2 (by decide)) ?_
      refine mm_getR rfl rfl rfl (by decide) rfl (mm_gi hG 2 0 3 (by decide)) ?_
      refine mm_iload_n rfl rfl ?_
      refine mm_rdN rfl (by decide) rfl (by decide) (by omega) (by decide) rfl rfl ?_
      refine mm_isN1 (M2 := qE_isLetter) (fun _ h => h.2) qE_isLetter_k (by decide) sE_isLetter (Nat.le_of_ble_eq_true rfl) (by decide) (by decide) rfl (by decide) ?_
      refine mm_if_eqN (tgt := 75) rfl (by decide) (ed_b31 _) (fun h66 => ?_) (fun h66 => ?_)
      · rw [ed_up_n (ed_beq h66)] at kk
        exact kk
      · refine mm_iincN rfl rfl (mm_inc1 _) (by decide) ?_
        refine mm_goto (tgt := 43) rfl (by decide) ?_
        rw [ed_up_y (ed_bne h66)] at kk
        exact lT_bw2 hG hn hn2 k (p + 1) i F (by omega) (by omega) kk
set_option maxRecDepth 100000 in
set_option maxHeartbeats 4000000 in
theorem lT_behindWords {E : mm_E} {G : mm_G} {J : mm_J} (hG : mm_GI G) {n : Nat} (hn : J 2 1 = nI n) (hn2 : n ≤ 100) {p0 l : Nat} (hl : l ≤ 9) : ∀ (k p i : Nat), l - i = k → i ≤ l → p ≤ n → mm_Go E qT_behindWords 5 [some (.ref 1), some (.int (nI p0)), some (.int (nI l)), some (.int (nI p)), some (.int (nI i))] [] 86 J G 0 0 (mm_Fm E qT_behindWords (mm_is (some (.int (nI (ed_fw (J 3) n k p)))) 86 J G))
  | 0, p, i, hk, hi, hp => by
    refine mm_iload rfl rfl ?_
    refine mm_iload_n rfl rfl ?_
    refine mm_icmp_geN (tgt := 81) rfl (by decide) (by omega) (by omega) (fun h8 => ?_) (fun h8 => ?_)
    · refine mm_iload_n rfl rfl ?_
      refine mm_ireturn rfl rfl rfl (by decide) (by decide) ?_
      exact ⟨rfl, rfl, rfl, rfl⟩
    · exact absurd h8 (by omega)
  | k + 1, p, i, hk, hi, hp => by
    refine mm_iload rfl rfl ?_
    refine mm_iload_n rfl rfl ?_
    refine mm_icmp_geN (tgt := 81) rfl (by decide) (by omega) (by omega) (fun h8 => ?_) (fun h8 => ?_)
    · exact absurd h8 (by omega)
    · have h1 := ed_up_le (ed_nlt (J 3)) (n - p) p
      have h2 := ed_up_le (ed_lt (J 3)) (n - ed_up (ed_nlt (J 3)) (n - p) p) (ed_up (ed_nlt (J 3)) (n - p) p)
      refine lT_bw1 hG hn hn2 (n - p) p i _ rfl hp ?_
      refine lT_bw2 hG hn hn2 (n - ed_up (ed_nlt (J 3)) (n - p) p) _ i _ rfl (by omega) ?_
      refine mm_iincN rfl rfl (mm_inc1 _) (by decide) ?_
      refine mm_goto (tgt := 5) rfl (by decide) ?_
      exact lT_behindWords hG hn hn2 hl k _ (i + 1) (by omega) (by omega) (by omega)
set_option maxRecDepth 100000 in
set_option maxHeartbeats 4000000 in
theorem sT_behindWords {E : mm_E} {G : mm_G} {J : mm_J} (hG : mm_GI G) {n : Nat} (hn : J 2 1 = nI n) (hn2 : n ≤ 100) {p l : Nat} (hl : l ≤ 9) (hp : p ≤ n) : mm_Ret E qT_behindWords [.ref 1, .int (nI p), .int (nI l)] 86 J G (some (.int (nI (ed_fw (J 3) n l p)))) 86 J G := by
  refine mm_Met.of qT_behindWords_ok (by decide) (mm_cats rfl) (Nat.le_of_ble_eq_true rfl) ?_
  refine mm_iload_n rfl rfl ?_
  refine mm_istore_n rfl (by decide) ?_
  refine mm_iconst (v := nI 0) rfl (by decide) ?_
  refine mm_istore rfl (by decide) ?_
  exact lT_behindWords hG hn hn2 hl l p 0 rfl (by omega) hp
set_option maxRecDepth 100000 in
set_option maxHeartbeats 4000000 in
theorem lT_fw1 {E : mm_E} {G : mm_G} {J : mm_J} (hG : mm_GI G) {p0 l : Nat} : ∀ (p i : Nat) (F : mm_F), p ≤ 100 → (kk : mm_Go E qT_beforeWords 38 [some (.ref 1), some (.int (nI p0)), some (.int (nI l)), some (.int (nI (ed_dn (ed_nlt (J 3)) p))), some (.int (nI i))] [] 86 J G 0 0 F) → mm_Go E qT_beforeWords 11 [some (.ref 1), some (.int (nI p0)), some (.int (nI l)), some (.int (nI p)), some (.int (nI i))] [] 86 J G 0 0 F
  | 0, i, F, hp, kk => by
    refine mm_iload_n rfl rfl ?_
    refine mm_if_leN (tgt := 38) rfl (by decide) (by omega) (fun h12 => ?_) (fun h12 => ?_)
    · exact kk
    · exact absurd h12 (by omega)
  | p + 1, i, F, hp, kk => by
    refine mm_iload_n rfl rfl ?_
    refine mm_if_leN (tgt := 38) rfl (by decide) (by omega) (fun h12 => ?_) (fun h12 => ?_)
    · exact absurd h12 (by omega)
    · refine mm_aload_n rfl rfl ?_
      refine mm_getR rfl rfl rfl (by decide) rfl (mm_gi hG 1 0 2 (by decide)) ?_
      refine mm_getR rfl rfl rfl (by decide) rfl (mm_gi hG 2 0 3 (by decide)) ?_
      refine mm_iload_n rfl rfl ?_
      refine mm_iconst (v := nI 1) rfl (by decide) ?_
      refine mm_isubN rfl (by omega) ?_
      refine mm_rdN rfl (by decide) rfl (by decide) (by omega) (by decide) rfl rfl ?_
      refine mm_isN1 (M2 := qE_isLetter) (fun _ h => h.2) qE_isLetter_k (by decide) sE_isLetter (Nat.le_of_ble_eq_true rfl) (by decide) (by decide) rfl (by decide) ?_
      refine mm_if_neN (tgt := 38) rfl (by decide) (ed_b31 _) (fun h29 => ?_) (fun h29 => ?_)
      · rw [ed_dn_n (q := ed_nlt (J 3)) (p := p) (ed_nlt_n (ed_bne h29))] at kk
        exact kk
      · refine mm_iincN rfl rfl (mm_dec1 (by omega)) (by decide) ?_
        refine mm_goto (tgt := 11) rfl (by decide) ?_
        rw [ed_dn_y (q := ed_nlt (J 3)) (p := p) (ed_nlt_y (ed_beq h29))] at kk
        exact lT_fw1 hG p i F (by omega) kk
set_option maxRecDepth 100000 in
set_option maxHeartbeats 4000000 in
theorem lT_fw2 {E : mm_E} {G : mm_G} {J : mm_J} (hG : mm_GI G) {p0 l : Nat} : ∀ (p i : Nat) (F : mm_F), p ≤ 100 → (kk : mm_Go E qT_beforeWords 65 [some (.ref 1), some (.int (nI p0)), some (.int (nI l)), some (.int (nI (ed_dn (ed_lt (J 3)) p))), some (.int (nI i))] [] 86 J G 0 0 F) → mm_Go E qT_beforeWords 38 [some (.ref 1), some (.int (nI p0)), some (.int (nI l)), some (.int (nI p)), some (.int (nI i))] [] 86 J G 0 0 F
  | 0, i, F, hp, kk => by
    refine mm_iload_n rfl rfl ?_
    refine mm_if_leN (tgt := 65) rfl (by decide) (by omega) (fun h39 => ?_) (fun h39 => ?_)
    · exact kk
    · exact absurd h39 (by omega)
  | p + 1, i, F, hp, kk => by
    refine mm_iload_n rfl rfl ?_
    refine mm_if_leN (tgt := 65) rfl (by decide) (by omega) (fun h39 => ?_) (fun h39 => ?_)
    · exact absurd h39 (by omega)
    · refine mm_aload_n rfl rfl ?_
      refine mm_getR rfl rfl rfl (by decide) rfl (mm_gi hG 1 0 2 (by decide)) ?_
      refine mm_getR rfl rfl rfl (by decide) rfl (mm_gi hG 2 0 3 (by decide)) ?_
      refine mm_iload_n rfl rfl ?_
      refine mm_iconst (v := nI 1) rfl (by decide) ?_
      refine mm_isubN rfl (by omega) ?_
      refine mm_rdN rfl (by decide) rfl (by decide) (by omega) (by decide) rfl rfl ?_
      refine mm_isN1 (M2 := qE_isLetter) (fun _ h => h.2) qE_isLetter_k (by decide) sE_isLetter (Nat.le_of_ble_eq_true rfl) (by decide) (by decide) rfl (by decide) ?_
      refine mm_if_eqN (tgt := 65) rfl (by decide) (ed_b31 _) (fun h56 => ?_) (fun h56 => ?_)
      · rw [ed_dn_n (q := ed_lt (J 3)) (p := p) (ed_beq h56)] at kk
        exact kk
      · refine mm_iincN rfl rfl (mm_dec1 (by omega)) (by decide) ?_
        refine mm_goto (tgt := 38) rfl (by decide) ?_
        rw [ed_dn_y (q := ed_lt (J 3)) (p := p) (ed_bne h56)] at kk
        exact lT_fw2 hG p i F (by omega) kk
set_option maxRecDepth 100000 in
set_option maxHeartbeats 4000000 in
theorem lT_beforeWords {E : mm_E} {G : mm_G} {J : mm_J} (hG : mm_GI G) {p0 l : Nat} (hl : l ≤ 9) : ∀ (k p i : Nat), l - i = k → i ≤ l → p ≤ 100 → mm_Go E qT_beforeWords 5 [some (.ref 1), some (.int (nI p0)), some (.int (nI l)), some (.int (nI p)), some (.int (nI i))] [] 86 J G 0 0 (mm_Fm E qT_beforeWords (mm_is (some (.int (nI (ed_bw (J 3) k p)))) 86 J G))
  | 0, p, i, hk, hi, hp => by
    refine mm_iload rfl rfl ?_
    refine mm_iload_n rfl rfl ?_
    refine mm_icmp_geN (tgt := 71) rfl (by decide) (by omega) (by omega) (fun h8 => ?_) (fun h8 => ?_)
    · refine mm_iload_n rfl rfl ?_
      refine mm_ireturn rfl rfl rfl (by decide) (by decide) ?_
      exact ⟨rfl, rfl, rfl, rfl⟩
    · exact absurd h8 (by omega)
  | k + 1, p, i, hk, hi, hp => by
    refine mm_iload rfl rfl ?_
    refine mm_iload_n rfl rfl ?_
    refine mm_icmp_geN (tgt := 71) rfl (by decide) (by omega) (by omega) (fun h8 => ?_) (fun h8 => ?_)
    · exact absurd h8 (by omega)
    · have h1 := ed_dn_le (ed_nlt (J 3)) p
      have h2 := ed_dn_le (ed_lt (J 3)) (ed_dn (ed_nlt (J 3)) p)
      refine lT_fw1 hG p i _ hp ?_
      refine lT_fw2 hG _ i _ (by omega) ?_
      refine mm_iincN rfl rfl (mm_inc1 _) (by decide) ?_
      refine mm_goto (tgt := 5) rfl (by decide) ?_
      exact lT_beforeWords hG hl k _ (i + 1) (by omega) (by omega) (by omega)
set_option maxRecDepth 100000 in
set_option maxHeartbeats 4000000 in
theorem sT_beforeWords {E : mm_E} {G : mm_G} {J : mm_J} (hG : mm_GI G) {p l : Nat} (hl : l ≤ 9) (hp : p ≤ 100) : mm_Ret E qT_beforeWords [.ref 1, .int (nI p), .int (nI l)] 86 J G (some (.int (nI (ed_bw (J 3) l p)))) 86 J G := by
  refine mm_Met.of qT_beforeWords_ok (by decide) (mm_cats rfl) (Nat.le_of_ble_eq_true rfl) ?_
  refine mm_iload_n rfl rfl ?_
  refine mm_istore_n rfl (by decide) ?_
  refine mm_iconst (v := nI 0) rfl (by decide) ?_
  refine mm_istore rfl (by decide) ?_
  exact lT_beforeWords hG hl l p 0 rfl (by omega) hp
