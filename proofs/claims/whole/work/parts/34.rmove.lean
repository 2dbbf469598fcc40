theorem ed_above_0 (f : Nat → Int32) : ∀ k, ed_above f k 0 = 0
  | 0 => rfl
  | k + 1 => by rw [ed_above, if_neg (by decide)]
set_option maxRecDepth 100000 in
set_option maxHeartbeats 4000000 in
theorem lR_vert2 {E : mm_E} {G : mm_G} {J : mm_J} (hG : mm_GI G) {n t : Nat} (hn : J 69 3 = nI n) (hn2 : n ≤ 100) (ht : J 69 7 = nI t) (ht9 : t ≤ 9) {b0 : Nat} {F : mm_F} (kk : ∀ z : Option Value, mm_Go E qR_vertical 101 [some (.ref 69), some (.int (nI 2)), some (.int (nI (ed_below (J 70) n t b0))), some (.int (nI t)), z] [] 86 J G 0 0 F) : ∀ (k b i : Nat) (z : Option Value), t - i = k → i ≤ t → b ≤ n → (he : ed_below (J 70) n k b = ed_below (J 70) n t b0) → mm_Go E qR_vertical 44 [some (.ref 69), some (.int (nI 2)), some (.int (nI b)), some (.int (nI i)), z] [] 86 J G 0 0 F
  | 0, b, i, z, hk, hi, hb, he => by
    refine mm_iload_n rfl rfl ?_
    refine mm_aload_n rfl rfl ?_
    refine mm_getI (x := nI t) rfl rfl rfl (by decide) rfl ht ?_
    refine mm_icmp_geN (tgt := 101) rfl (by decide) (by omega) (by omega) (fun h49 => ?_) (fun h49 => ?_)
    · obtain rfl : t = i := by omega
      rw [show b = ed_below (J 70) n t b0 from he]
      exact kk z
    · exact absurd h49 (by omega)
  | k + 1, b, i, z, hk, hi, hb, he => by
    refine mm_iload_n rfl rfl ?_
    refine mm_aload_n rfl rfl ?_
    refine mm_getI (x := nI t) rfl rfl rfl (by decide) rfl ht ?_
    refine mm_icmp_geN (tgt := 101) rfl (by decide) (by omega) (by omega) (fun h49 => ?_) (fun h49 => ?_)
    · exact absurd h49 (by omega)
    · refine mm_aload_n rfl rfl ?_
      refine mm_iload_n rfl rfl ?_
      refine mm_isV1 (M2 := qR_lineEnd) wd_685 qR_lineEnd_k (by decide) (sR_lineEnd hG hn hn2 hb) rfl (by decide) (Nat.le_of_ble_eq_true rfl) (by decide) (by decide) rfl (by decide) ?_
      have hle := ed_le_le (f := J 70) hb
      refine mm_istore rfl (by decide) ?_
      refine mm_iload_n rfl rfl ?_
      refine mm_iconst (v := nI 2) rfl (by decide) ?_
      refine mm_icmp_neN (tgt := 78) rfl (by decide) (by decide) (by decide) (fun h => absurd h (by decide)) (fun _ => ?_)
      refine mm_iload rfl rfl ?_
      refine mm_aload_n rfl rfl ?_
      refine mm_getI (x := nI n) rfl rfl rfl (by decide) rfl hn ?_
      refine mm_icmp_geN (tgt := 78) rfl (by decide) (by omega) (by omega) (fun h70 => ?_) (fun h70 => ?_)
      · refine mm_iload_n rfl rfl ?_
        refine mm_iconst (v := nI 3) rfl (by decide) ?_
        refine mm_icmp_neN (tgt := 95) rfl (by decide) (by decide) (by decide) (fun _ => ?_) (fun h => absurd h (by decide))
        refine mm_iincN rfl rfl (mm_inc1 _) (by decide) ?_
        refine mm_goto (tgt := 44) rfl (by decide) ?_
        exact lR_vert2 hG hn hn2 ht ht9 kk k b (i + 1) _ (by omega) (by omega) (by omega) (by rw [← he, ed_below, if_neg (by omega)])
      · refine mm_iload rfl rfl ?_
        refine mm_iconst (v := nI 1) rfl (by decide) ?_
        refine mm_iaddN rfl ?_
        refine mm_istore_n rfl (by decide) ?_
        refine mm_iload_n rfl rfl ?_
        refine mm_iconst (v := nI 3) rfl (by decide) ?_
        refine mm_icmp_neN (tgt := 95) rfl (by decide) (by decide) (by decide) (fun _ => ?_) (fun h => absurd h (by decide))
        refine mm_iincN rfl rfl (mm_inc1 _) (by decide) ?_
        refine mm_goto (tgt := 44) rfl (by decide) ?_
        exact lR_vert2 hG hn hn2 ht ht9 kk k (ed_le (J 70) n b + 1) (i + 1) _ (by omega) (by omega) (by omega) (by rw [← he, ed_below, if_pos h70])
set_option maxRecDepth 100000 in
set_option maxHeartbeats 4000000 in
theorem sR_vertical2a {E : mm_E} {G : mm_G} {J : mm_J} (hG : mm_GI G) {n t : Nat} (hn : J 69 3 = nI n) (hn2 : n ≤ 100) (ht : J 69 7 = nI t) (ht9 : t ≤ 9) {q : Nat} (hp : J 69 5 = nI q) (hq : q ≤ n) (hl : ¬ J 69 8 = nI 2 ∧ ¬ J 69 8 = nI 3) : mm_Ret E qR_vertical [.ref 69, .int (nI 2)] 86 J G none 86 (mm_set (mm_set J 69 9 (nI (q - ed_lb (J 70) q))) 69 5 (nI (min ((ed_below (J 70) n t (ed_lb (J 70) q)) + (q - ed_lb (J 70) q)) (ed_le (J 70) n (ed_below (J 70) n t (ed_lb (J 70) q)))))) G := by
  refine mm_Met.of qR_vertical_ok (by decide) (mm_cats rfl) (Nat.le_of_ble_eq_true rfl) ?_
  have hlb := ed_lb_le (f := J 70) (p := q)
  have hbb : (ed_below (J 70) n t (ed_lb (J 70) q)) ≤ n := ed_below_le t _ (by omega)
  refine mm_aload_n rfl rfl ?_
  refine mm_getI rfl rfl rfl (by decide) rfl rfl ?_
  refine mm_iconst (v := nI 2) rfl (by decide) ?_
  refine mm_icmp_eq (tgt := 33) rfl (by decide) (fun h5 => ?_) (fun h5 => ?_)
  · exact absurd h5 hl.1
  · refine mm_aload_n rfl rfl ?_
    refine mm_getI rfl rfl rfl (by decide) rfl rfl ?_
    refine mm_iconst (v := nI 3) rfl (by decide) ?_
    refine mm_icmp_eq (tgt := 33) rfl (by decide) (fun h13 => ?_) (fun h13 => ?_)
    · exact absurd h13 hl.2
    · refine mm_aload_n rfl rfl ?_
      refine mm_aload_n rfl rfl ?_
      refine mm_getI (x := nI q) rfl rfl rfl (by decide) rfl hp ?_
      refine mm_aload_n rfl rfl ?_
      refine mm_aload_n rfl rfl ?_
      refine mm_getI (x := nI q) rfl rfl rfl (by decide) rfl hp ?_
      refine mm_isV1 (M2 := qR_lineStart) wd_725 qR_lineStart_k (by decide) (sR_lineStart hG (by omega)) rfl (by decide) (Nat.le_of_ble_eq_true rfl) (by decide) (by decide) rfl (by decide) ?_
      refine mm_isubN rfl (by omega) ?_
      refine mm_putI rfl rfl rfl (by decide) rfl (Or.inl rfl) rfl rfl ?_
      refine mm_aload_n rfl rfl ?_
      refine mm_aload_n rfl rfl ?_
      refine mm_getI (x := nI q) rfl rfl rfl (by decide) rfl (by simp [mm_set, hp]) ?_
      refine mm_isV1 (M2 := qR_lineStart) wd_725 qR_lineStart_k (by decide) (sR_lineStart (J := (mm_set J 69 9 (nI (q - ed_lb (J 70) q)))) (p := q) hG (by omega)) rfl (by decide) (Nat.le_of_ble_eq_true rfl) (by decide) (by decide) rfl (by decide) ?_
      refine mm_istore_n rfl (by decide) ?_
      refine mm_iconst (v := nI 0) rfl (by decide) ?_
      refine mm_istore_n rfl (by decide) ?_
      refine lR_vert2 (J := (mm_set J 69 9 (nI (q - ed_lb (J 70) q)))) (b0 := ed_lb (J 70) q) hG (by simp [mm_set, hn]) hn2 (by simp [mm_set, ht]) ht9 (fun z => ?_) t _ 0 none rfl (by omega) (by first | omega | exact Nat.le_trans hlb hq) rfl
      refine mm_aload_n rfl rfl ?_
      refine mm_iload_n rfl rfl ?_
      refine mm_isV1 (M2 := qR_lineEnd) wd_685 qR_lineEnd_k (by decide) (sR_lineEnd (n := n) (J := (mm_set J 69 9 (nI (q - ed_lb (J 70) q)))) hG (by simp [mm_set, hn]) hn2 hbb) rfl (by decide) (Nat.le_of_ble_eq_true rfl) (by decide) (by decide) rfl (by decide) ?_
      have hle := ed_le_le (f := J 70) hbb
      rw [show (mm_set J 69 9 (nI (q - ed_lb (J 70) q))) 70 = J 70 from rfl]
      refine mm_istore_n rfl (by decide) ?_
      refine mm_aload_n rfl rfl ?_
      refine mm_iload_n rfl rfl ?_
      refine mm_aload_n rfl rfl ?_
      refine mm_getI (x := nI (q - ed_lb (J 70) q)) rfl rfl rfl (by decide) rfl (by simp [mm_set]) ?_
      refine mm_iaddN rfl ?_
      refine mm_iload_n rfl rfl ?_
      refine mm_icmp_geN (tgt := 127) rfl (by decide) (by omega) (by omega) (fun h115 => ?_) (fun h115 => ?_)
      · refine mm_iload_n rfl rfl ?_
        refine mm_putI rfl rfl rfl (by decide) rfl (Or.inl rfl) rfl rfl ?_
        refine mm_return rfl rfl (by decide) (by decide) ?_
        exact ⟨rfl, rfl, by rw [show min ((ed_below (J 70) n t (ed_lb (J 70) q)) + (q - ed_lb (J 70) q)) (ed_le (J 70) n (ed_below (J 70) n t (ed_lb (J 70) q))) = ed_le (J 70) n (ed_below (J 70) n t (ed_lb (J 70) q)) from by omega], rfl⟩
      · refine mm_iload_n rfl rfl ?_
        refine mm_aload_n rfl rfl ?_
        refine mm_getI (x := nI (q - ed_lb (J 70) q)) rfl rfl rfl (by decide) rfl (by simp [mm_set]) ?_
        refine mm_iaddN rfl ?_
        refine mm_goto (tgt := 128) rfl (by decide) ?_
        refine mm_putI rfl rfl rfl (by decide) rfl (Or.inl rfl) rfl rfl ?_
        refine mm_return rfl rfl (by decide) (by decide) ?_
        exact ⟨rfl, rfl, by rw [show min ((ed_below (J 70) n t (ed_lb (J 70) q)) + (q - ed_lb (J 70) q)) (ed_le (J 70) n (ed_below (J 70) n t (ed_lb (J 70) q))) = (ed_below (J 70) n t (ed_lb (J 70) q)) + (q - ed_lb (J 70) q) from by omega], rfl⟩
set_option maxRecDepth 100000 in
set_option maxHeartbeats 4000000 in
theorem sR_vertical2b {E : mm_E} {G : mm_G} {J : mm_J} (hG : mm_GI G) {n t : Nat} (hn : J 69 3 = nI n) (hn2 : n ≤ 100) (ht : J 69 7 = nI t) (ht9 : t ≤ 9) {q : Nat} (hp : J 69 5 = nI q) (hq : q ≤ n) (hl : J 69 8 = nI 2 ∨ J 69 8 = nI 3) {g : Nat} (hg : J 69 9 = nI g) (hg2 : g ≤ 100) : mm_Ret E qR_vertical [.ref 69, .int (nI 2)] 86 J G none 86 (mm_set J 69 5 (nI (min ((ed_below (J 70) n t (ed_lb (J 70) q)) + g) (ed_le (J 70) n (ed_below (J 70) n t (ed_lb (J 70) q)))))) G := by
  refine mm_Met.of qR_vertical_ok (by decide) (mm_cats rfl) (Nat.le_of_ble_eq_true rfl) ?_
  have hlb := ed_lb_le (f := J 70) (p := q)
  have hbb : (ed_below (J 70) n t (ed_lb (J 70) q)) ≤ n := ed_below_le t _ (by omega)
  refine mm_aload_n rfl rfl ?_
  refine mm_getI rfl rfl rfl (by decide) rfl rfl ?_
  refine mm_iconst (v := nI 2) rfl (by decide) ?_
  refine mm_icmp_eq (tgt := 33) rfl (by decide) (fun h5 => ?_) (fun h5 => ?_)
  · refine mm_aload_n rfl rfl ?_
    refine mm_aload_n rfl rfl ?_
    refine mm_getI (x := nI q) rfl rfl rfl (by decide) rfl hp ?_
    refine mm_isV1 (M2 := qR_lineStart) wd_725 qR_lineStart_k (by decide) (sR_lineStart (J := J) (p := q) hG (by omega)) rfl (by decide) (Nat.le_of_ble_eq_true rfl) (by decide) (by decide) rfl (by decide) ?_
    refine mm_istore_n rfl (by decide) ?_
    refine mm_iconst (v := nI 0) rfl (by decide) ?_
    refine mm_istore_n rfl (by decide) ?_
    refine lR_vert2 (J := J) (b0 := ed_lb (J 70) q) hG (by simp [hn]) hn2 (by simp [ht]) ht9 (fun z => ?_) t _ 0 none rfl (by omega) (by first | omega | exact Nat.le_trans hlb hq) rfl
    refine mm_aload_n rfl rfl ?_
    refine mm_iload_n rfl rfl ?_
    refine mm_isV1 (M2 := qR_lineEnd) wd_685 qR_lineEnd_k (by decide) (sR_lineEnd (n := n) (J := J) hG (by simp [hn]) hn2 hbb) rfl (by decide) (Nat.le_of_ble_eq_true rfl) (by decide) (by decide) rfl (by decide) ?_
    have hle := ed_le_le (f := J 70) hbb
    refine mm_istore_n rfl (by decide) ?_
    refine mm_aload_n rfl rfl ?_
    refine mm_iload_n rfl rfl ?_
    refine mm_aload_n rfl rfl ?_
    refine mm_getI (x := nI g) rfl rfl rfl (by decide) rfl hg ?_
    refine mm_iaddN rfl ?_
    refine mm_iload_n rfl rfl ?_
    refine mm_icmp_geN (tgt := 127) rfl (by decide) (by omega) (by omega) (fun h115 => ?_) (fun h115 => ?_)
    · refine mm_iload_n rfl rfl ?_
      refine mm_putI rfl rfl rfl (by decide) rfl (Or.inl rfl) rfl rfl ?_
      refine mm_return rfl rfl (by decide) (by decide) ?_
      exact ⟨rfl, rfl, by rw [show min ((ed_below (J 70) n t (ed_lb (J 70) q)) + g) (ed_le (J 70) n (ed_below (J 70) n t (ed_lb (J 70) q))) = ed_le (J 70) n (ed_below (J 70) n t (ed_lb (J 70) q)) from by omega], rfl⟩
    · refine mm_iload_n rfl rfl ?_
      refine mm_aload_n rfl rfl ?_
      refine mm_getI (x := nI g) rfl rfl rfl (by decide) rfl hg ?_
      refine mm_iaddN rfl ?_
      refine mm_goto (tgt := 128) rfl (by decide) ?_
      refine mm_putI rfl rfl rfl (by decide) rfl (Or.inl rfl) rfl rfl ?_
      refine mm_return rfl rfl (by decide) (by decide) ?_
      exact ⟨rfl, rfl, by rw [show min ((ed_below (J 70) n t (ed_lb (J 70) q)) + g) (ed_le (J 70) n (ed_below (J 70) n t (ed_lb (J 70) q))) = (ed_below (J 70) n t (ed_lb (J 70) q)) + g from by omega], rfl⟩
  · refine mm_aload_n rfl rfl ?_
    refine mm_getI rfl rfl rfl (by decide) rfl rfl ?_
    refine mm_iconst (v := nI 3) rfl (by decide) ?_
    refine mm_icmp_eq (tgt := 33) rfl (by decide) (fun h13 => ?_) (fun h13 => ?_)
    · refine mm_aload_n rfl rfl ?_
      refine mm_aload_n rfl rfl ?_
      refine mm_getI (x := nI q) rfl rfl rfl (by decide) rfl hp ?_
      refine mm_isV1 (M2 := qR_lineStart) wd_725 qR_lineStart_k (by decide) (sR_lineStart (J := J) (p := q) hG (by omega)) rfl (by decide) (Nat.le_of_ble_eq_true rfl) (by decide) (by decide) rfl (by decide) ?_
      refine mm_istore_n rfl (by decide) ?_
      refine mm_iconst (v := nI 0) rfl (by decide) ?_
      refine mm_istore_n rfl (by decide) ?_
      refine lR_vert2 (J := J) (b0 := ed_lb (J 70) q) hG (by simp [hn]) hn2 (by simp [ht]) ht9 (fun z => ?_) t _ 0 none rfl (by omega) (by first | omega | exact Nat.le_trans hlb hq) rfl
      refine mm_aload_n rfl rfl ?_
      refine mm_iload_n rfl rfl ?_
      refine mm_isV1 (M2 := qR_lineEnd) wd_685 qR_lineEnd_k (by decide) (sR_lineEnd (n := n) (J := J) hG (by simp [hn]) hn2 hbb) rfl (by decide) (Nat.le_of_ble_eq_true rfl) (by decide) (by decide) rfl (by decide) ?_
      have hle := ed_le_le (f := J 70) hbb
      refine mm_istore_n rfl (by decide) ?_
      refine mm_aload_n rfl rfl ?_
      refine mm_iload_n rfl rfl ?_
      refine mm_aload_n rfl rfl ?_
      refine mm_getI (x := nI g) rfl rfl rfl (by decide) rfl hg ?_
      refine mm_iaddN rfl ?_
      refine mm_iload_n rfl rfl ?_
      refine mm_icmp_geN (tgt := 127) rfl (by decide) (by omega) (by omega) (fun h115 => ?_) (fun h115 => ?_)
      · refine mm_iload_n rfl rfl ?_
        refine mm_putI rfl rfl rfl (by decide) rfl (Or.inl rfl) rfl rfl ?_
        refine mm_return rfl rfl (by decide) (by decide) ?_
        exact ⟨rfl, rfl, by rw [show min ((ed_below (J 70) n t (ed_lb (J 70) q)) + g) (ed_le (J 70) n (ed_below (J 70) n t (ed_lb (J 70) q))) = ed_le (J 70) n (ed_below (J 70) n t (ed_lb (J 70) q)) from by omega], rfl⟩
      · refine mm_iload_n rfl rfl ?_
        refine mm_aload_n rfl rfl ?_
        refine mm_getI (x := nI g) rfl rfl rfl (by decide) rfl hg ?_
        refine mm_iaddN rfl ?_
        refine mm_goto (tgt := 128) rfl (by decide) ?_
        refine mm_putI rfl rfl rfl (by decide) rfl (Or.inl rfl) rfl rfl ?_
        refine mm_return rfl rfl (by decide) (by decide) ?_
        exact ⟨rfl, rfl, by rw [show min ((ed_below (J 70) n t (ed_lb (J 70) q)) + g) (ed_le (J 70) n (ed_below (J 70) n t (ed_lb (J 70) q))) = (ed_below (J 70) n t (ed_lb (J 70) q)) + g from by omega], rfl⟩
    · exact absurd hl (fun e => e.elim h5 h13)
set_option maxRecDepth 100000 in
set_option maxHeartbeats 4000000 in
theorem lR_vert3 {E : mm_E} {G : mm_G} {J : mm_J} (hG : mm_GI G) {n t : Nat} (hn : J 69 3 = nI n) (hn2 : n ≤ 100) (ht : J 69 7 = nI t) (ht9 : t ≤ 9) {b0 : Nat} {F : mm_F} (kk : ∀ z : Option Value, mm_Go E qR_vertical 101 [some (.ref 69), some (.int (nI 3)), some (.int (nI (ed_above (J 70) t b0))), some (.int (nI t)), z] [] 86 J G 0 0 F) : ∀ (k b i : Nat) (z : Option Value), t - i = k → i ≤ t → b ≤ n → (he : ed_above (J 70) k b = ed_above (J 70) t b0) → mm_Go E qR_vertical 44 [some (.ref 69), some (.int (nI 3)), some (.int (nI b)), some (.int (nI i)), z] [] 86 J G 0 0 F
  | 0, b, i, z, hk, hi, hb, he => by
    refine mm_iload_n rfl rfl ?_
    refine mm_aload_n rfl rfl ?_
    refine mm_getI (x := nI t) rfl rfl rfl (by decide) rfl ht ?_
    refine mm_icmp_geN (tgt := 101) rfl (by decide) (by omega) (by omega) (fun h49 => ?_) (fun h49 => ?_)
    · obtain rfl : t = i := by omega
      rw [show b = ed_above (J 70) t b0 from he]
      exact kk z
    · exact absurd h49 (by omega)
  | k + 1, b, i, z, hk, hi, hb, he => by
    refine mm_iload_n rfl rfl ?_
    refine mm_aload_n rfl rfl ?_
    refine mm_getI (x := nI t) rfl rfl rfl (by decide) rfl ht ?_
    refine mm_icmp_geN (tgt := 101) rfl (by decide) (by omega) (by omega) (fun h49 => ?_) (fun h49 => ?_)
    · exact absurd h49 (by omega)
    · refine mm_aload_n rfl rfl ?_
      refine mm_iload_n rfl rfl ?_
      refine mm_isV1 (M2 := qR_lineEnd) wd_685 qR_lineEnd_k (by decide) (sR_lineEnd hG hn hn2 hb) rfl (by decide) (Nat.le_of_ble_eq_true rfl) (by decide) (by decide) rfl (by decide) ?_
      have hle := ed_le_le (f := J 70) hb
      refine mm_istore rfl (by decide) ?_
      refine mm_iload_n rfl rfl ?_
      refine mm_iconst (v := nI 2) rfl (by decide) ?_
      refine mm_icmp_neN (tgt := 78) rfl (by decide) (by decide) (by decide) (fun _ => ?_) (fun h => absurd h (by decide))
      refine mm_iload_n rfl rfl ?_
      refine mm_iconst (v := nI 3) rfl (by decide) ?_
      refine mm_icmp_neN (tgt := 95) rfl (by decide) (by decide) (by decide) (fun h => absurd h (by decide)) (fun _ => ?_)
      refine mm_iload_n rfl rfl ?_
      refine mm_if_leN (tgt := 95) rfl (by decide) (by omega) (fun h84 => ?_) (fun h84 => ?_)
      · refine mm_iincN rfl rfl (mm_inc1 _) (by decide) ?_
        refine mm_goto (tgt := 44) rfl (by decide) ?_
        exact lR_vert3 hG hn hn2 ht ht9 kk k b (i + 1) _ (by omega) (by omega) (by omega) (by rw [← he, ed_above, if_neg (by omega), h84, ed_above_0])
      · refine mm_aload_n rfl rfl ?_
        refine mm_iload_n rfl rfl ?_
        refine mm_iconst (v := nI 1) rfl (by decide) ?_
        refine mm_isubN rfl (by omega) ?_
        refine mm_isV1 (M2 := qR_lineStart) wd_725 qR_lineStart_k (by decide) (sR_lineStart hG (by omega)) rfl (by decide) (Nat.le_of_ble_eq_true rfl) (by decide) (by decide) rfl (by decide) ?_
        have hlb := ed_lb_le (f := J 70) (p := b - 1)
        refine mm_istore_n rfl (by decide) ?_
        refine mm_iincN rfl rfl (mm_inc1 _) (by decide) ?_
        refine mm_goto (tgt := 44) rfl (by decide) ?_
        exact lR_vert3 hG hn hn2 ht ht9 kk k (ed_lb (J 70) (b - 1)) (i + 1) _ (by omega) (by omega) (by omega) (by rw [← he, ed_above, if_pos h84])
set_option maxRecDepth 100000 in
set_option maxHeartbeats 4000000 in
theorem sR_vertical3a {E : mm_E} {G : mm_G} {J : mm_J} (hG : mm_GI G) {n t : Nat} (hn : J 69 3 = nI n) (hn2 : n ≤ 100) (ht : J 69 7 = nI t) (ht9 : t ≤ 9) {q : Nat} (hp : J 69 5 = nI q) (hq : q ≤ n) (hl : ¬ J 69 8 = nI 2 ∧ ¬ J 69 8 = nI 3) : mm_Ret E qR_vertical [.ref 69, .int (nI 3)] 86 J G none 86 (mm_set (mm_set J 69 9 (nI (q - ed_lb (J 70) q))) 69 5 (nI (min ((ed_above (J 70) t (ed_lb (J 70) q)) + (q - ed_lb (J 70) q)) (ed_le (J 70) n (ed_above (J 70) t (ed_lb (J 70) q)))))) G := by
  refine mm_Met.of qR_vertical_ok (by decide) (mm_cats rfl) (Nat.le_of_ble_eq_true rfl) ?_
  have hlb := ed_lb_le (f := J 70) (p := q)
  have hbb : (ed_above (J 70) t (ed_lb (J 70) q)) ≤ n := Nat.le_trans (ed_above_le t _) (by omega)
  refine mm_aload_n rfl rfl ?_
  refine mm_getI rfl rfl rfl (by decide) rfl rfl ?_
  refine mm_iconst (v := nI 2) rfl (by decide) ?_
  refine mm_icmp_eq (tgt := 33) rfl (by decide) (fun h5 => ?_) (fun h5 => ?_)
  · exact absurd h5 hl.1
  · refine mm_aload_n rfl rfl ?_
    refine mm_getI rfl rfl rfl (by decide) rfl rfl ?_
    refine mm_iconst (v := nI 3) rfl (by decide) ?_
    refine mm_icmp_eq (tgt := 33) rfl (by decide) (fun h13 => ?_) (fun h13 => ?_)
    · exact absurd h13 hl.2
    · refine mm_aload_n rfl rfl ?_
      refine mm_aload_n rfl rfl ?_
      refine mm_getI (x := nI q) rfl rfl rfl (by decide) rfl hp ?_
      refine mm_aload_n rfl rfl ?_
      refine mm_aload_n rfl rfl ?_
      refine mm_getI (x := nI q) rfl rfl rfl (by decide) rfl hp ?_
      refine mm_isV1 (M2 := qR_lineStart) wd_725 qR_lineStart_k (by decide) (sR_lineStart hG (by omega)) rfl (by decide) (Nat.le_of_ble_eq_true rfl) (by decide) (by decide) rfl (by decide) ?_
      refine mm_isubN rfl (by omega) ?_
      refine mm_putI rfl rfl rfl (by decide) rfl (Or.inl rfl) rfl rfl ?_
      refine mm_aload_n rfl rfl ?_
      refine mm_aload_n rfl rfl ?_
      refine mm_getI (x := nI q) rfl rfl rfl (by decide) rfl (by simp [mm_set, hp]) ?_
      refine mm_isV1 (M2 := qR_lineStart) wd_725 qR_lineStart_k (by decide) (sR_lineStart (J := (mm_set J 69 9 (nI (q - ed_lb (J 70) q)))) (p := q) hG (by omega)) rfl (by decide) (Nat.le_of_ble_eq_true rfl) (by decide) (by decide) rfl (by decide) ?_
      refine mm_istore_n rfl (by decide) ?_
      refine mm_iconst (v := nI 0) rfl (by decide) ?_
      refine mm_istore_n rfl (by decide) ?_
      refine lR_vert3 (J := (mm_set J 69 9 (nI (q - ed_lb (J 70) q)))) (b0 := ed_lb (J 70) q) hG (by simp [mm_set, hn]) hn2 (by simp [mm_set, ht]) ht9 (fun z => ?_) t _ 0 none rfl (by omega) (by first | omega | exact Nat.le_trans hlb hq) rfl
      refine mm_aload_n rfl rfl ?_
      refine mm_iload_n rfl rfl ?_
      refine mm_isV1 (M2 := qR_lineEnd) wd_685 qR_lineEnd_k (by decide) (sR_lineEnd (n := n) (J := (mm_set J 69 9 (nI (q - ed_lb (J 70) q)))) hG (by simp [mm_set, hn]) hn2 hbb) rfl (by decide) (Nat.le_of_ble_eq_true rfl) (by decide) (by decide) rfl (by decide) ?_
      have hle := ed_le_le (f := J 70) hbb
      rw [show (mm_set J 69 9 (nI (q - ed_lb (J 70) q))) 70 = J 70 from rfl]
      refine mm_istore_n rfl (by decide) ?_
      refine mm_aload_n rfl rfl ?_
      refine mm_iload_n rfl rfl ?_
      refine mm_aload_n rfl rfl ?_
      refine mm_getI (x := nI (q - ed_lb (J 70) q)) rfl rfl rfl (by decide) rfl (by simp [mm_set]) ?_
      refine mm_iaddN rfl ?_
      refine mm_iload_n rfl rfl ?_
      refine mm_icmp_geN (tgt := 127) rfl (by decide) (by omega) (by omega) (fun h115 => ?_) (fun h115 => ?_)
      · refine mm_iload_n rfl rfl ?_
        refine mm_putI rfl rfl rfl (by decide) rfl (Or.inl rfl) rfl rfl ?_
        refine mm_return rfl rfl (by decide) (by decide) ?_
        exact ⟨rfl, rfl, by rw [show min ((ed_above (J 70) t (ed_lb (J 70) q)) + (q - ed_lb (J 70) q)) (ed_le (J 70) n (ed_above (J 70) t (ed_lb (J 70) q))) = ed_le (J 70) n (ed_above (J 70) t (ed_lb (J 70) q)) from by omega], rfl⟩
      · refine mm_iload_n rfl rfl ?_
        refine mm_aload_n rfl rfl ?_
        refine mm_getI (x := nI (q - ed_lb (J 70) q)) rfl rfl rfl (by decide) rfl (by simp [mm_set]) ?_
        refine mm_iaddN rfl ?_
        refine mm_goto (tgt := 128) rfl (by decide) ?_
        refine mm_putI rfl rfl rfl (by decide) rfl (Or.inl rfl) rfl rfl ?_
        refine mm_return rfl rfl (by decide) (by decide) ?_
        exact ⟨rfl, rfl, by rw [show min ((ed_above (J 70) t (ed_lb (J 70) q)) + (q - ed_lb (J 70) q)) (ed_le (J 70) n (ed_above (J 70) t (ed_lb (J 70) q))) = (ed_above (J 70) t (ed_lb (J 70) q)) + (q - ed_lb (J 70) q) from by omega], rfl⟩
set_option maxRecDepth 100000 in
set_option maxHeartbeats 4000000 in
theorem sR_vertical3b {E : mm_E} {G : mm_G} {J : mm_J} (hG : mm_GI G) {n t : Nat} (hn : J 69 3 = nI n) (hn2 : n ≤ 100) (ht : J 69 7 = nI t) (ht9 : t ≤ 9) {q : Nat} (hp : J 69 5 = nI q) (hq : q ≤ n) (hl : J 69 8 = nI 2 ∨ J 69 8 = nI 3) {g : Nat} (hg : J 69 9 = nI g) (hg2 : g ≤ 100) : mm_Ret E qR_vertical [.ref 69, .int (nI 3)] 86 J G none 86 (mm_set J 69 5 (nI (min ((ed_above (J 70) t (ed_lb (J 70) q)) + g) (ed_le (J 70) n (ed_above (J 70) t (ed_lb (J 70) q)))))) G := by
  refine mm_Met.of qR_vertical_ok (by decide) (mm_cats rfl) (Nat.le_of_ble_eq_true rfl) ?_
  have hlb := ed_lb_le (f := J 70) (p := q)
  have hbb : (ed_above (J 70) t (ed_lb (J 70) q)) ≤ n := Nat.le_trans (ed_above_le t _) (by omega)
  refine mm_aload_n rfl rfl ?_
  refine mm_getI rfl rfl rfl (by decide) rfl rfl ?_
  refine mm_iconst (v := nI 2) rfl (by decide) ?_
  refine mm_icmp_eq (tgt := 33) rfl (by decide) (fun h5 => ?_) (fun h5 => ?_)
  · refine mm_aload_n rfl rfl ?_
    refine mm_aload_n rfl rfl ?_
    refine mm_getI (x := nI q) rfl rfl rfl (by decide) rfl hp ?_
    refine mm_isV1 (M2 := qR_lineStart) wd_725 qR_lineStart_k (by decide) (sR_lineStart (J := J) (p := q) hG (by omega)) rfl (by decide) (Nat.le_of_ble_eq_true rfl) (by decide) (by decide) rfl (by decide) ?_
    refine mm_istore_n rfl (by decide) ?_
    refine mm_iconst (v := nI 0) rfl (by decide) ?_
    refine mm_istore_n rfl (by decide) ?_
    refine lR_vert3 (J := J) (b0 := ed_lb (J 70) q) hG (by simp [hn]) hn2 (by simp [ht]) ht9 (fun z => ?_) t _ 0 none rfl (by omega) (by first | omega | exact Nat.le_trans hlb hq) rfl
    refine mm_aload_n rfl rfl ?_
    refine mm_iload_n rfl rfl ?_
    refine mm_isV1 (M2 := qR_lineEnd) wd_685 qR_lineEnd_k (by decide) (sR_lineEnd (n := n) (J := J) hG (by simp [hn]) hn2 hbb) rfl (by decide) (Nat.le_of_ble_eq_true rfl) (by decide) (by decide) rfl (by decide) ?_
    have hle := ed_le_le (f := J 70) hbb
    refine mm_istore_n rfl (by decide) ?_
    refine mm_aload_n rfl rfl ?_
    refine mm_iload_n rfl rfl ?_
    refine mm_aload_n rfl rfl ?_
    refine mm_getI (x := nI g) rfl rfl rfl (by decide) rfl hg ?_
    refine mm_iaddN rfl ?_
    refine mm_iload_n rfl rfl ?_
    refine mm_icmp_geN (tgt := 127) rfl (by decide) (by omega) (by omega) (fun h115 => ?_) (fun h115 => ?_)
    · refine mm_iload_n rfl rfl ?_
      refine mm_putI rfl rfl rfl (by decide) rfl (Or.inl rfl) rfl rfl ?_
      refine mm_return rfl rfl (by decide) (by decide) ?_
      exact ⟨rfl, rfl, by rw [show min ((ed_above (J 70) t (ed_lb (J 70) q)) + g) (ed_le (J 70) n (ed_above (J 70) t (ed_lb (J 70) q))) = ed_le (J 70) n (ed_above (J 70) t (ed_lb (J 70) q)) from by omega], rfl⟩
    · refine mm_iload_n rfl rfl ?_
      refine mm_aload_n rfl rfl ?_
      refine mm_getI (x := nI g) rfl rfl rfl (by decide) rfl hg ?_
      refine mm_iaddN rfl ?_
      refine mm_goto (tgt := 128) rfl (by decide) ?_
      refine mm_putI rfl rfl rfl (by decide) rfl (Or.inl rfl) rfl rfl ?_
      refine mm_return rfl rfl (by decide) (by decide) ?_
      exact ⟨rfl, rfl, by rw [show min ((ed_above (J 70) t (ed_lb (J 70) q)) + g) (ed_le (J 70) n (ed_above (J 70) t (ed_lb (J 70) q))) = (ed_above (J 70) t (ed_lb (J 70) q)) + g from by omega], rfl⟩
  · refine mm_aload_n rfl rfl ?_
    refine mm_getI rfl rfl rfl (by decide) rfl rfl ?_
    refine mm_iconst (v := nI 3) rfl (by decide) ?_
    refine mm_icmp_eq (tgt := 33) rfl (by decide) (fun h13 => ?_) (fun h13 => ?_)
    · refine mm_aload_n rfl rfl ?_
      refine mm_aload_n rfl rfl ?_
      refine mm_getI (x := nI q) rfl rfl rfl (by decide) rfl hp ?_
      refine mm_isV1 (M2 := qR_lineStart) wd_725 qR_lineStart_k (by decide) (sR_lineStart (J := J) (p := q) hG (by omega)) rfl (by decide) (Nat.le_of_ble_eq_true rfl) (by decide) (by decide) rfl (by decide) ?_
      refine mm_istore_n rfl (by decide) ?_
      refine mm_iconst (v := nI 0) rfl (by decide) ?_
      refine mm_istore_n rfl (by decide) ?_
      refine lR_vert3 (J := J) (b0 := ed_lb (J 70) q) hG (by simp [hn]) hn2 (by simp [ht]) ht9 (fun z => ?_) t _ 0 none rfl (by omega) (by first | omega | exact Nat.le_trans hlb hq) rfl
      refine mm_aload_n rfl rfl ?_
      refine mm_iload_n rfl rfl ?_
      refine mm_isV1 (M2 := qR_lineEnd) wd_685 qR_lineEnd_k (by decide) (sR_lineEnd (n := n) (J := J) hG (by simp [hn]) hn2 hbb) rfl (by decide) (Nat.le_of_ble_eq_true rfl) (by decide) (by decide) rfl (by decide) ?_
      have hle := ed_le_le (f := J 70) hbb
      refine mm_istore_n rfl (by decide) ?_
      refine mm_aload_n rfl rfl ?_
      refine mm_iload_n rfl rfl ?_
      refine mm_aload_n rfl rfl ?_
      refine mm_getI (x := nI g) rfl rfl rfl (by decide) rfl hg ?_
      refine mm_iaddN rfl ?_
      refine mm_iload_n rfl rfl ?_
      refine mm_icmp_geN (tgt := 127) rfl (by decide) (by omega) (by omega) (fun h115 => ?_) (fun h115 => ?_)
      · refine mm_iload_n rfl rfl ?_
        refine mm_putI rfl rfl rfl (by decide) rfl (Or.inl rfl) rfl rfl ?_
        refine mm_return rfl rfl (by decide) (by decide) ?_
        exact ⟨rfl, rfl, by rw [show min ((ed_above (J 70) t (ed_lb (J 70) q)) + g) (ed_le (J 70) n (ed_above (J 70) t (ed_lb (J 70) q))) = ed_le (J 70) n (ed_above (J 70) t (ed_lb (J 70) q)) from by omega], rfl⟩
      · refine mm_iload_n rfl rfl ?_
        refine mm_aload_n rfl rfl ?_
        refine mm_getI (x := nI g) rfl rfl rfl (by decide) rfl hg ?_
        refine mm_iaddN rfl ?_
        refine mm_goto (tgt := 128) rfl (by decide) ?_
        refine mm_putI rfl rfl rfl (by decide) rfl (Or.inl rfl) rfl rfl ?_
        refine mm_return rfl rfl (by decide) (by decide) ?_
        exact ⟨rfl, rfl, by rw [show min ((ed_above (J 70) t (ed_lb (J 70) q)) + g) (ed_le (J 70) n (ed_above (J 70) t (ed_lb (J 70) q))) = (ed_above (J 70) t (ed_lb (J 70) q)) + g from by omega], rfl⟩
    · exact absurd hl (fun e => e.elim h5 h13)
set_option maxRecDepth 100000 in
set_option maxHeartbeats 4000000 in
theorem lR_w1 {E : mm_E} {G : mm_G} {J : mm_J} (hG : mm_GI G) {n : Nat} (hn : J 69 3 = nI n) (hn2 : n ≤ 100) : ∀ (k p i : Nat) (F : mm_F), n - p = k → p ≤ n → (kk : mm_Go E qR_words 53 [some (.ref 69), some (.int (nI 0)), some (.int (nI i))] [] 86 (mm_set J 69 5 (nI (ed_up (ed_nlt (J 70)) k p))) G 0 0 F) → mm_Go E qR_words 10 [some (.ref 69), some (.int (nI 0)), some (.int (nI i))] [] 86 (mm_set J 69 5 (nI p)) G 0 0 F
  | 0, p, i, F, hk, hp, kk => by
    refine mm_iload_n rfl rfl ?_
    refine mm_if_neN (tgt := 53) rfl (by decide) (by decide) (fun h => absurd h (by decide)) (fun _ => ?_)
    refine mm_aload_n rfl rfl ?_
    refine mm_getI (x := nI p) rfl rfl rfl (by decide) rfl (by simp [mm_set]) ?_
    refine mm_aload_n rfl rfl ?_
    refine mm_getI (x := nI n) rfl rfl rfl (by decide) rfl (by simp [mm_set, hn]) ?_
    refine mm_icmp_geN (tgt := 53) rfl (by decide) (by omega) (by omega) (fun h22 => ?_) (fun h22 => ?_)
    · exact kk
    · exact absurd h22 (by omega)
  | k + 1, p, i, F, hk, hp, kk => by
    refine mm_iload_n rfl rfl ?_
    refine mm_if_neN (tgt := 53) rfl (by decide) (by decide) (fun h => absurd h (by decide)) (fun _ => ?_)
    refine mm_aload_n rfl rfl ?_
    refine mm_getI (x := nI p) rfl rfl rfl (by decide) rfl (by simp [mm_set]) ?_
    refine mm_aload_n rfl rfl ?_
    refine mm_getI (x := nI n) rfl rfl rfl (by decide) rfl (by simp [mm_set, hn]) ?_
    refine mm_icmp_geN (tgt := 53) rfl (by decide) (by omega) (by omega) (fun h22 => ?_) (fun h22 => ?_)
    · exact absurd h22 (by omega)
    · refine mm_aload_n rfl rfl ?_
      refine mm_getR rfl rfl rfl (by decide) rfl (mm_gi hG 69 0 70 (by decide)) ?_
      refine mm_aload_n rfl rfl ?_
      refine mm_getI (x := nI p) rfl rfl rfl (by decide) rfl (by simp [mm_set]) ?_
      refine mm_rdN (x := J 70 p) rfl (by decide) rfl (by decide) (by omega) (by decide) rfl (by simp [mm_set]) ?_
      refine mm_isS1 (M2 := qR_letter) wd_635 qR_letter_k (by decide) sR_letter (Nat.le_of_ble_eq_true rfl) (by decide) (by decide) rfl (by decide) ?_
      refine mm_if_neN (tgt := 53) rfl (by decide) (ed_b31 _) (fun h37 => ?_) (fun h37 => ?_)
      · rw [ed_up_n (ed_nlt_n (ed_bne h37))] at kk
        exact kk
      · refine mm_aload_n rfl rfl ?_
        refine mm_dup rfl rfl ?_
        refine mm_getI (x := nI p) rfl rfl rfl (by decide) rfl (by simp [mm_set]) ?_
        refine mm_iconst (v := nI 1) rfl (by decide) ?_
        refine mm_iaddN rfl ?_
        refine mm_putI rfl rfl rfl (by decide) rfl (Or.inl rfl) rfl rfl ?_
        refine mm_goto (tgt := 10) rfl (by decide) ?_
        rw [mm_set_set]
        rw [ed_up_y (ed_nlt_y (ed_beq h37))] at kk
        exact lR_w1 hG hn hn2 k (p + 1) i F (by omega) (by omega) kk
set_option maxRecDepth 100000 in
set_option maxHeartbeats 4000000 in
theorem lR_w2 {E : mm_E} {G : mm_G} {J : mm_J} (hG : mm_GI G) {n : Nat} (hn : J 69 3 = nI n) (hn2 : n ≤ 100) : ∀ (k p i : Nat) (F : mm_F), n - p = k → p ≤ n → (kk : mm_Go E qR_words 96 [some (.ref 69), some (.int (nI 0)), some (.int (nI i))] [] 86 (mm_set J 69 5 (nI (ed_up (ed_lt (J 70)) k p))) G 0 0 F) → mm_Go E qR_words 53 [some (.ref 69), some (.int (nI 0)), some (.int (nI i))] [] 86 (mm_set J 69 5 (nI p)) G 0 0 F
  | 0, p, i, F, hk, hp, kk => by
    refine mm_iload_n rfl rfl ?_
    refine mm_if_neN (tgt := 96) rfl (by decide) (by decide) (fun h => absurd h (by decide)) (fun _ => ?_)
    refine mm_aload_n rfl rfl ?_
    refine mm_getI (x := nI p) rfl rfl rfl (by decide) rfl (by simp [mm_set]) ?_
    refine mm_aload_n rfl rfl ?_
    refine mm_getI (x := nI n) rfl rfl rfl (by decide) rfl (by simp [mm_set, hn]) ?_
    refine mm_icmp_geN (tgt := 96) rfl (by decide) (by omega) (by omega) (fun h65 => ?_) (fun h65 => ?_)
    · exact kk
    · exact absurd h65 (by omega)
  | k + 1, p, i, F, hk, hp, kk => by
    refine mm_iload_n rfl rfl ?_
    refine mm_if_neN (tgt := 96) rfl (by decide) (by decide) (fun h => absurd h (by decide)) (fun _ => ?_)
    refine mm_aload_n rfl rfl ?_
    refine mm_getI (x := nI p) rfl rfl rfl (by decide) rfl (by simp [mm_set]) ?_
    refine mm_aload_n rfl rfl ?_
    refine mm_getI (x := nI n) rfl rfl rfl (by decide) rfl (by simp [mm_set, hn]) ?_
    refine mm_icmp_geN (tgt := 96) rfl (by decide) (by omega) (by omega) (fun h65 => ?_) (fun h65 => ?_)
    · exact absurd h65 (by omega)
    · refine mm_aload_n rfl rfl ?_
      refine mm_getR rfl rfl rfl (by decide) rfl (mm_gi hG 69 0 70 (by decide)) ?_
      refine mm_aload_n rfl rfl ?_
      refine mm_getI (x := nI p) rfl rfl rfl (by decide) rfl (by simp [mm_set]) ?_
      refine mm_rdN (x := J 70 p) rfl (by decide) rfl (by decide) (by omega) (by decide) rfl (by simp [mm_set]) ?_
      refine mm_isS1 (M2 := qR_letter) wd_635 qR_letter_k (by decide) sR_letter (Nat.le_of_ble_eq_true rfl) (by decide) (by decide) rfl (by decide) ?_
      refine mm_if_eqN (tgt := 96) rfl (by decide) (ed_b31 _) (fun h80 => ?_) (fun h80 => ?_)
      · rw [ed_up_n (ed_beq h80)] at kk
        exact kk
      · refine mm_aload_n rfl rfl ?_
        refine mm_dup rfl rfl ?_
        refine mm_getI (x := nI p) rfl rfl rfl (by decide) rfl (by simp [mm_set]) ?_
        refine mm_iconst (v := nI 1) rfl (by decide) ?_
        refine mm_iaddN rfl ?_
        refine mm_putI rfl rfl rfl (by decide) rfl (Or.inl rfl) rfl rfl ?_
        refine mm_goto (tgt := 53) rfl (by decide) ?_
        rw [mm_set_set]
        rw [ed_up_y (ed_bne h80)] at kk
        exact lR_w2 hG hn hn2 k (p + 1) i F (by omega) (by omega) kk
set_option maxRecDepth 100000 in
set_option maxHeartbeats 4000000 in
theorem lR_w3 {E : mm_E} {G : mm_G} {J : mm_J} (hG : mm_GI G) {n : Nat} (hn : J 69 3 = nI n) (hn2 : n ≤ 100) : ∀ (p i : Nat) (F : mm_F), p ≤ 100 → (kk : mm_Go E qR_words 137 [some (.ref 69), some (.int (nI 1)), some (.int (nI i))] [] 86 (mm_set J 69 5 (nI (ed_dn (ed_nlt (J 70)) p))) G 0 0 F) → mm_Go E qR_words 96 [some (.ref 69), some (.int (nI 1)), some (.int (nI i))] [] 86 (mm_set J 69 5 (nI p)) G 0 0 F
  | 0, i, F, hp, kk => by
    refine mm_iload_n rfl rfl ?_
    refine mm_if_eqN (tgt := 137) rfl (by decide) (by decide) (fun h => absurd h (by decide)) (fun _ => ?_)
    refine mm_aload_n rfl rfl ?_
    refine mm_getI (x := nI 0) rfl rfl rfl (by decide) rfl (by simp [mm_set]) ?_
    refine mm_if_leN (tgt := 137) rfl (by decide) (by omega) (fun h104 => ?_) (fun h104 => ?_)
    · exact kk
    · exact absurd h104 (by omega)
  | p + 1, i, F, hp, kk => by
    refine mm_iload_n rfl rfl ?_
    refine mm_if_eqN (tgt := 137) rfl (by decide) (by decide) (fun h => absurd h (by decide)) (fun _ => ?_)
    refine mm_aload_n rfl rfl ?_
    refine mm_getI (x := nI (p + 1)) rfl rfl rfl (by decide) rfl (by simp [mm_set]) ?_
    refine mm_if_leN (tgt := 137) rfl (by decide) (by omega) (fun h104 => ?_) (fun h104 => ?_)
    · exact absurd h104 (by omega)
    · refine mm_aload_n rfl rfl ?_
      refine mm_getR rfl rfl rfl (by decide) rfl (mm_gi hG 69 0 70 (by decide)) ?_
      refine mm_aload_n rfl rfl ?_
      refine mm_getI (x := nI (p + 1)) rfl rfl rfl (by decide) rfl (by simp [mm_set]) ?_
      refine mm_iconst (v := nI 1) rfl (by decide) ?_
      refine mm_isubN rfl (by omega) ?_
      refine mm_rdN (x := J 70 (p + 1 - 1)) rfl (by decide) rfl (by decide) (by omega) (by decide) rfl (by simp [mm_set]) ?_
      refine mm_isS1 (M2 := qR_letter) wd_635 qR_letter_k (by decide) sR_letter (Nat.le_of_ble_eq_true rfl) (by decide) (by decide) rfl (by decide) ?_
      refine mm_if_neN (tgt := 137) rfl (by decide) (ed_b31 _) (fun h121 => ?_) (fun h121 => ?_)
      · rw [ed_dn_n (q := ed_nlt (J 70)) (p := p) (ed_nlt_n (ed_bne h121))] at kk
        exact kk
      · refine mm_aload_n rfl rfl ?_
        refine mm_dup rfl rfl ?_
        refine mm_getI (x := nI (p + 1)) rfl rfl rfl (by decide) rfl (by simp [mm_set]) ?_
        refine mm_iconst (v := nI 1) rfl (by decide) ?_
        refine mm_isubN rfl (by omega) ?_
        refine mm_putI rfl rfl rfl (by decide) rfl (Or.inl rfl) rfl rfl ?_
        refine mm_goto (tgt := 96) rfl (by decide) ?_
        rw [mm_set_set]
        rw [ed_dn_y (q := ed_nlt (J 70)) (p := p) (ed_nlt_y (ed_beq h121))] at kk
        exact lR_w3 hG hn hn2 p i F (by omega) kk
set_option maxRecDepth 100000 in
set_option maxHeartbeats 4000000 in
theorem lR_w4 {E : mm_E} {G : mm_G} {J : mm_J} (hG : mm_GI G) {n : Nat} (hn : J 69 3 = nI n) (hn2 : n ≤ 100) : ∀ (p i : Nat) (F : mm_F), p ≤ 100 → (kk : mm_Go E qR_words 178 [some (.ref 69), some (.int (nI 1)), some (.int (nI i))] [] 86 (mm_set J 69 5 (nI (ed_dn (ed_lt (J 70)) p))) G 0 0 F) → mm_Go E qR_words 137 [some (.ref 69), some (.int (nI 1)), some (.int (nI i))] [] 86 (mm_set J 69 5 (nI p)) G 0 0 F
  | 0, i, F, hp, kk => by
    refine mm_iload_n rfl rfl ?_
    refine mm_if_eqN (tgt := 178) rfl (by decide) (by decide) (fun h => absurd h (by decide)) (fun _ => ?_)
    refine mm_aload_n rfl rfl ?_
    refine mm_getI (x := nI 0) rfl rfl rfl (by decide) rfl (by simp [mm_set]) ?_
    refine mm_if_leN (tgt := 178) rfl (by decide) (by omega) (fun h145 => ?_) (fun h145 => ?_)
    · exact kk
    · exact absurd h145 (by omega)
  | p + 1, i, F, hp, kk => by
    refine mm_iload_n rfl rfl ?_
    refine mm_if_eqN (tgt := 178) rfl (by decide) (by decide) (fun h => absurd h (by decide)) (fun _ => ?_)
    refine mm_aload_n rfl rfl ?_
    refine mm_getI (x := nI (p + 1)) rfl rfl rfl (by decide) rfl (by simp [mm_set]) ?_
    refine mm_if_leN (tgt := 178) rfl (by decide) (by omega) (fun h145 => ?_) (fun h145 => ?_)
    · exact absurd h145 (by omega)
    · refine mm_aload_n rfl rfl ?_
      refine mm_getR rfl rfl rfl (by decide) rfl (mm_gi hG 69 0 70 (by decide)) ?_
      refine mm_aload_n rfl rfl ?_
      refine mm_getI (x := nI (p + 1)) rfl rfl rfl (by decide) rfl (by simp [mm_set]) ?_
      refine mm_iconst (v := nI 1) rfl (by decide) ?_
      refine mm_isubN rfl (by omega) ?_
      refine mm_rdN (x := J 70 (p + 1 - 1)) rfl (by decide) rfl (by decide) (by omega) (by decide) rfl (by simp [mm_set]) ?_
      refine mm_isS1 (M2 := qR_letter) wd_635 qR_letter_k (by decide) sR_letter (Nat.le_of_ble_eq_true rfl) (by decide) (by decide) rfl (by decide) ?_
      refine mm_if_eqN (tgt := 178) rfl (by decide) (ed_b31 _) (fun h162 => ?_) (fun h162 => ?_)
      · rw [ed_dn_n (q := ed_lt (J 70)) (p := p) (ed_beq h162)] at kk
        exact kk
      · refine mm_aload_n rfl rfl ?_
        refine mm_dup rfl rfl ?_
        refine mm_getI (x := nI (p + 1)) rfl rfl rfl (by decide) rfl (by simp [mm_set]) ?_
        refine mm_iconst (v := nI 1) rfl (by decide) ?_
        refine mm_isubN rfl (by omega) ?_
        refine mm_putI rfl rfl rfl (by decide) rfl (Or.inl rfl) rfl rfl ?_
        refine mm_goto (tgt := 137) rfl (by decide) ?_
        rw [mm_set_set]
        rw [ed_dn_y (q := ed_lt (J 70)) (p := p) (ed_bne h162)] at kk
        exact lR_w4 hG hn hn2 p i F (by omega) kk
set_option maxRecDepth 100000 in
set_option maxHeartbeats 4000000 in
theorem lR_wordsF {E : mm_E} {G : mm_G} {J : mm_J} (hG : mm_GI G) {n t : Nat} (hn : J 69 3 = nI n) (hn2 : n ≤ 100) (ht : J 69 7 = nI t) (ht9 : t ≤ 9) {p0 : Nat} : ∀ (k p i : Nat), t - i = k → i ≤ t → p ≤ n → (he : ed_fw (J 70) n t p0 = ed_fw (J 70) n k p) → mm_Go E qR_words 2 [some (.ref 69), some (.int (nI 0)), some (.int (nI i))] [] 86 (mm_set J 69 5 (nI p)) G 0 0 (mm_Fm E qR_words (mm_is none 86 (mm_set J 69 5 (nI (ed_fw (J 70) n t p0))) G))
  | 0, p, i, hk, hi, hp, he => by
    refine mm_iload_n rfl rfl ?_
    refine mm_aload_n rfl rfl ?_
    refine mm_getI (x := nI t) rfl rfl rfl (by decide) rfl (by simp [mm_set, ht]) ?_
    refine mm_icmp_geN (tgt := 184) rfl (by decide) (by omega) (by omega) (fun h7 => ?_) (fun h7 => ?_)
    · refine mm_return rfl rfl (by decide) (by decide) ?_
      exact ⟨rfl, rfl, by rw [show ed_fw (J 70) n t p0 = p from he], rfl⟩
    · exact absurd h7 (by omega)
  | k + 1, p, i, hk, hi, hp, he => by
    refine mm_iload_n rfl rfl ?_
    refine mm_aload_n rfl rfl ?_
    refine mm_getI (x := nI t) rfl rfl rfl (by decide) rfl (by simp [mm_set, ht]) ?_
    refine mm_icmp_geN (tgt := 184) rfl (by decide) (by omega) (by omega) (fun h7 => ?_) (fun h7 => ?_)
    · exact absurd h7 (by omega)
    · have h1 := ed_up_le (ed_nlt (J 70)) (n - p) p
      have h2 := ed_up_le (ed_lt (J 70)) (n - ed_up (ed_nlt (J 70)) (n - p) p) (ed_up (ed_nlt (J 70)) (n - p) p)
      refine lR_w1 hG hn hn2 (n - p) p i _ rfl hp ?_
      refine lR_w2 hG hn hn2 (n - ed_up (ed_nlt (J 70)) (n - p) p) _ i _ rfl (by omega) ?_
      refine mm_iload_n rfl rfl ?_
      refine mm_if_eqN (tgt := 137) rfl (by decide) (by decide) (fun _ => ?_) (fun h => absurd h (by decide))
      refine mm_iload_n rfl rfl ?_
      refine mm_if_eqN (tgt := 178) rfl (by decide) (by decide) (fun _ => ?_) (fun h => absurd h (by decide))
      refine mm_iincN rfl rfl (mm_inc1 _) (by decide) ?_
      refine mm_goto (tgt := 2) rfl (by decide) ?_
      exact lR_wordsF hG hn hn2 ht ht9 k _ (i + 1) (by omega) (by omega) (by omega) (by rw [he, ed_fw])
set_option maxRecDepth 100000 in
set_option maxHeartbeats 4000000 in
theorem lR_wordsB {E : mm_E} {G : mm_G} {J : mm_J} (hG : mm_GI G) {n t : Nat} (hn : J 69 3 = nI n) (hn2 : n ≤ 100) (ht : J 69 7 = nI t) (ht9 : t ≤ 9) {p0 : Nat} : ∀ (k p i : Nat), t - i = k → i ≤ t → p ≤ n → (he : ed_bw (J 70) t p0 = ed_bw (J 70) k p) → mm_Go E qR_words 2 [some (.ref 69), some (.int (nI 1)), some (.int (nI i))] [] 86 (mm_set J 69 5 (nI p)) G 0 0 (mm_Fm E qR_words (mm_is none 86 (mm_set J 69 5 (nI (ed_bw (J 70) t p0))) G))
  | 0, p, i, hk, hi, hp, he => by
    refine mm_iload_n rfl rfl ?_
    refine mm_aload_n rfl rfl ?_
    refine mm_getI (x := nI t) rfl rfl rfl (by decide) rfl (by simp [mm_set, ht]) ?_
    refine mm_icmp_geN (tgt := 184) rfl (by decide) (by omega) (by omega) (fun h7 => ?_) (fun h7 => ?_)
    · refine mm_return rfl rfl (by decide) (by decide) ?_
      exact ⟨rfl, rfl, by rw [show ed_bw (J 70) t p0 = p from he], rfl⟩
    · exact absurd h7 (by omega)
  | k + 1, p, i, hk, hi, hp, he => by
    refine mm_iload_n rfl rfl ?_
    refine mm_aload_n rfl rfl ?_
    refine mm_getI (x := nI t) rfl rfl rfl (by decide) rfl (by simp [mm_set, ht]) ?_
    refine mm_icmp_geN (tgt := 184) rfl (by decide) (by omega) (by omega) (fun h7 => ?_) (fun h7 => ?_)
    · exact absurd h7 (by omega)
    · refine mm_iload_n rfl rfl ?_
      refine mm_if_neN (tgt := 53) rfl (by decide) (by decide) (fun _ => ?_) (fun h => absurd h (by decide))
      refine mm_iload_n rfl rfl ?_
      refine mm_if_neN (tgt := 96) rfl (by decide) (by decide) (fun _ => ?_) (fun h => absurd h (by decide))
      have h1 := ed_dn_le (ed_nlt (J 70)) p
      have h2 := ed_dn_le (ed_lt (J 70)) (ed_dn (ed_nlt (J 70)) p)
      refine lR_w3 hG hn hn2 p i _ (by omega) ?_
      refine lR_w4 hG hn hn2 _ i _ (by omega) ?_
      refine mm_iincN rfl rfl (mm_inc1 _) (by decide) ?_
      refine mm_goto (tgt := 2) rfl (by decide) ?_
      exact lR_wordsB hG hn hn2 ht ht9 k _ (i + 1) (by omega) (by omega) (by omega) (by rw [he, ed_bw])
set_option maxRecDepth 100000 in
set_option maxHeartbeats 4000000 in
theorem sR_words0 {E : mm_E} {G : mm_G} {J : mm_J} (hG : mm_GI G) {n t : Nat} (hn : J 69 3 = nI n) (hn2 : n ≤ 100) (ht : J 69 7 = nI t) (ht9 : t ≤ 9) {q : Nat} (hp : J 69 5 = nI q) (hq : q ≤ n) : mm_Ret E qR_words [.ref 69, .int (nI 0)] 86 J G none 86 (mm_set J 69 5 (nI (ed_fw (J 70) n t q))) G := by
  refine mm_Met.of qR_words_ok (by decide) (mm_cats rfl) (Nat.le_of_ble_eq_true rfl) ?_
  refine mm_iconst (v := nI 0) rfl (by decide) ?_
  refine mm_istore_n rfl (by decide) ?_
  exact mm_J_eq (mm_set_self hp).symm (lR_wordsF hG hn hn2 ht ht9 t q 0 rfl (by omega) hq rfl)
set_option maxRecDepth 100000 in
set_option maxHeartbeats 4000000 in
theorem sR_words1 {E : mm_E} {G : mm_G} {J : mm_J} (hG : mm_GI G) {n t : Nat} (hn : J 69 3 = nI n) (hn2 : n ≤ 100) (ht : J 69 7 = nI t) (ht9 : t ≤ 9) {q : Nat} (hp : J 69 5 = nI q) (hq : q ≤ n) : mm_Ret E qR_words [.ref 69, .int (nI 1)] 86 J G none 86 (mm_set J 69 5 (nI (ed_bw (J 70) t q))) G := by
  refine mm_Met.of qR_words_ok (by decide) (mm_cats rfl) (Nat.le_of_ble_eq_true rfl) ?_
  refine mm_iconst (v := nI 0) rfl (by decide) ?_
  refine mm_istore_n rfl (by decide) ?_
  exact mm_J_eq (mm_set_self hp).symm (lR_wordsB hG hn hn2 ht ht9 t q 0 rfl (by omega) hq rfl)
