/-- the bindings: codes and commands -/
def ed_L (J : mm_J) (c : Nat) : List (Int32 × Int32) := (List.range c).map (fun i => (J 61 i, J 62 i))
theorem ed_L_s (J : mm_J) (c : Nat) : ed_L J (c + 1) = ed_L J c ++ [(J 61 c, J 62 c)] := by
  unfold ed_L
  rw [List.range_succ, List.map_append]
  rfl
theorem ed_L_c {J J' : mm_J} {c : Nat} (h : ∀ i, i < c → J' 61 i = J 61 i ∧ J' 62 i = J 62 i) : ed_L J' c = ed_L J c := by
  unfold ed_L
  refine List.map_congr_left (fun i hi => ?_)
  have := h i (List.mem_range.mp hi)
  rw [this.1, this.2]
theorem ed_L_l (J : mm_J) (c : Nat) : (ed_L J c).length = c := by simp [ed_L]
def ed_kp (a b : Nat) (q : Int32 × Int32) : Bool := decide (q.1 < nI a ∨ ¬ q.1 < nI b)
def ed_any (J : mm_J) (row c : Nat) : Prop := ∃ j v, j < c ∧ J 61 j = nI v ∧ ed_lg v row = true
/-- what drop leaves -/
def ed_DP (J : mm_J) (G : mm_G) (c a b : Nat) : mm_T := fun r n J' G' => G' = G ∧ r = none ∧ n = 86 ∧ (∃ c', c' ≤ c ∧ J' 60 2 = nI c' ∧ ed_L J' c' = (ed_L J c).filter (ed_kp a b)) ∧ J' 60 3 = J 60 3 ∧ (∀ i, ¬ i = 60 → ¬ i = 61 → ¬ i = 62 → J' i = J i)
set_option maxRecDepth 100000 in
set_option maxHeartbeats 400000 in
theorem lY_drop {E : mm_E} {G : mm_G} (hG : mm_GI G) {c a b : Nat} {J0 : mm_J} (hc2 : c ≤ 24) : ∀ (n k i : Nat) {J : mm_J}, c - i = n → i ≤ c → (hc : J 60 2 = nI c) → k ≤ i → (∀ j, i ≤ j → J 61 j = J0 61 j ∧ J 62 j = J0 62 j) → ed_L J k = (ed_L J0 i).filter (ed_kp a b) → J 60 3 = J0 60 3 → (∀ z, ¬ z = 60 → ¬ z = 61 → ¬ z = 62 → J z = J0 z) → mm_Go E qY_drop 5 [some (.ref 60), some (.int (nI a)), some (.int (nI b)), some (.int (nI k)), some (.int (nI i))] [] 86 J G 0 0 (mm_Fm E qY_drop (ed_DP J0 G c a b))
  | 0, k, i, J, hn, hi, hc, hki, hun, hL, hp3, hfr => by
    refine mm_iload rfl rfl ?_
    refine mm_aload_n rfl rfl ?_
    refine mm_getI (x := nI c) rfl rfl rfl (by decide) rfl hc ?_
    refine mm_icmp_geN (tgt := 71) rfl (by decide) (by omega) (by omega) (fun h11 => ?_) (fun h11 => ?_)
    · refine mm_aload_n rfl rfl ?_
      refine mm_iload_n rfl rfl ?_
      refine mm_putI rfl rfl rfl (by decide) rfl (Or.inl rfl) rfl rfl ?_
      refine mm_return rfl rfl (by decide) (by decide) ?_
      obtain rfl : c = i := by omega
      exact ⟨rfl, rfl, rfl, ⟨k, hki, by simp [mm_set], by rw [← hL]; exact ed_L_c (fun j _ => by simp [mm_set])⟩, by simp [mm_set, hp3], fun z h1 h2 h3 => by funext j; simp [mm_set, h1, hfr z h1 h2 h3]⟩
    · exact absurd h11 (by omega)
  | n + 1, k, i, J, hn, hi, hc, hki, hun, hL, hp3, hfr => by
    refine mm_iload rfl rfl ?_
    refine mm_aload_n rfl rfl ?_
    refine mm_getI (x := nI c) rfl rfl rfl (by decide) rfl hc ?_
    refine mm_icmp_geN (tgt := 71) rfl (by decide) (by omega) (by omega) (fun h11 => ?_) (fun h11 => ?_)
    · exact absurd h11 (by omega)
    · refine mm_aload_n rfl rfl ?_
      refine mm_getR rfl rfl rfl (by decide) rfl (mm_gi hG 60 0 61 (by decide)) ?_
      refine mm_iload rfl rfl ?_
      refine mm_rdN rfl (by decide) rfl (by decide) (by omega) (by decide) rfl rfl ?_
      refine mm_iload_n rfl rfl ?_
      refine mm_icmp_lt (tgt := 36) rfl (by decide) (fun h22 => ?_) (fun h22 => ?_)
      · refine mm_aload_n rfl rfl ?_
        refine mm_getR rfl rfl rfl (by decide) rfl (mm_gi hG 60 0 61 (by decide)) ?_
        refine mm_iload_n rfl rfl ?_
        refine mm_aload_n rfl rfl ?_
        refine mm_getR rfl rfl rfl (by decide) rfl (mm_gi hG 60 0 61 (by decide)) ?_
        refine mm_iload rfl rfl ?_
        refine mm_rdN (x := J 61 i) rfl (by decide) rfl (by decide) (by omega) (by decide) rfl rfl ?_
        refine mm_wrN rfl (by decide) rfl (by decide) (by omega) (by decide) rfl ?_
        refine mm_aload_n rfl rfl ?_
        refine mm_getR rfl rfl rfl (by decide) rfl (mm_gi hG 60 1 62 (by decide)) ?_
        refine mm_iload_n rfl rfl ?_
        refine mm_aload_n rfl rfl ?_
        refine mm_getR rfl rfl rfl (by decide) rfl (mm_gi hG 60 1 62 (by decide)) ?_
        refine mm_iload rfl rfl ?_
        refine mm_rdN (x := J 62 i) rfl (by decide) rfl (by decide) (by omega) (by decide) rfl (by simp [mm_set]) ?_
        refine mm_wrN rfl (by decide) rfl (by decide) (by omega) (by decide) rfl ?_
        refine mm_iincN rfl rfl (mm_inc1 _) (by decide) ?_
        refine mm_iincN rfl rfl (mm_inc1 _) (by decide) ?_
        refine mm_goto (tgt := 5) rfl (by decide) ?_
        refine lY_drop (J := mm_set (mm_set J 61 k (J 61 i)) 62 k (J 62 i)) hG hc2 n (k + 1) (i + 1) (by omega) (by omega) (by simp [mm_set, hc]) (by omega) (fun j hj => ?_) ?_ (by simp [mm_set, hp3]) (fun z h1 h2 h3 => by funext j; simp [mm_set, h2, h3, hfr z h1 h2 h3])
        · have := hun j (by omega)
          simp [mm_set, show ¬ j = k by omega, this.1, this.2]
        · have h1 := hun i (Nat.le_refl i)
          rw [ed_L_s, ed_L_s, List.filter_append, ← hL, ed_L_c (J := J) (fun j hj => by simp [mm_set, show ¬ j = k by omega]), List.filter_cons_of_pos (by simp only [ed_kp, decide_eq_true_eq]; rw [← h1.1]; first | exact Or.inl h22 | exact Or.inr h33)]
          simp [mm_set, h1.1, h1.2]
      · refine mm_aload_n rfl rfl ?_
        refine mm_getR rfl rfl rfl (by decide) rfl (mm_gi hG 60 0 61 (by decide)) ?_
        refine mm_iload rfl rfl ?_
        refine mm_rdN rfl (by decide) rfl (by decide) (by omega) (by decide) rfl rfl ?_
        refine mm_iload_n rfl rfl ?_
        refine mm_icmp_lt (tgt := 65) rfl (by decide) (fun h33 => ?_) (fun h33 => ?_)
        · refine mm_iincN rfl rfl (mm_inc1 _) (by decide) ?_
          refine mm_goto (tgt := 5) rfl (by decide) ?_
          refine lY_drop hG hc2 n k (i + 1) (by omega) (by omega) hc (by omega) (fun j hj => hun j (by omega)) ?_ hp3 hfr
          have h1 := hun i (Nat.le_refl i)
          rw [ed_L_s, List.filter_append, ← hL, List.filter_cons_of_neg (by simp only [ed_kp, decide_eq_true_eq]; rw [← h1.1]; exact fun q => q.elim h22 (fun q => q h33))]
          simp
        · refine mm_aload_n rfl rfl ?_
          refine mm_getR rfl rfl rfl (by decide) rfl (mm_gi hG 60 0 61 (by decide)) ?_
          refine mm_iload_n rfl rfl ?_
          refine mm_aload_n rfl rfl ?_
          refine mm_getR rfl rfl rfl (by decide) rfl (mm_gi hG 60 0 61 (by decide)) ?_
          refine mm_iload rfl rfl ?_
          refine mm_rdN (x := J 61 i) rfl (by decide) rfl (by decide) (by omega) (by decide) rfl rfl ?_
          refine mm_wrN rfl (by decide) rfl (by decide) (by omega) (by decide) rfl ?_
          refine mm_aload_n rfl rfl ?_
          refine mm_getR rfl rfl rfl (by decide) rfl (mm_gi hG 60 1 62 (by decide)) ?_
          refine mm_iload_n rfl rfl ?_
          refine mm_aload_n rfl rfl ?_
          refine mm_getR rfl rfl rfl (by decide) rfl (mm_gi hG 60 1 62 (by decide)) ?_
          refine mm_iload rfl rfl ?_
          refine mm_rdN (x := J 62 i) rfl (by decide) rfl (by decide) (by omega) (by decide) rfl (by simp [mm_set]) ?_
          refine mm_wrN rfl (by decide) rfl (by decide) (by omega) (by decide) rfl ?_
          refine mm_iincN rfl rfl (mm_inc1 _) (by decide) ?_
          refine mm_iincN rfl rfl (mm_inc1 _) (by decide) ?_
          refine mm_goto (tgt := 5) rfl (by decide) ?_
          refine lY_drop (J := mm_set (mm_set J 61 k (J 61 i)) 62 k (J 62 i)) hG hc2 n (k + 1) (i + 1) (by omega) (by omega) (by simp [mm_set, hc]) (by omega) (fun j hj => ?_) ?_ (by simp [mm_set, hp3]) (fun z h1 h2 h3 => by funext j; simp [mm_set, h2, h3, hfr z h1 h2 h3])
          · have := hun j (by omega)
            simp [mm_set, show ¬ j = k by omega, this.1, this.2]
          · have h1 := hun i (Nat.le_refl i)
            rw [ed_L_s, ed_L_s, List.filter_append, ← hL, ed_L_c (J := J) (fun j hj => by simp [mm_set, show ¬ j = k by omega]), List.filter_cons_of_pos (by simp only [ed_kp, decide_eq_true_eq]; rw [← h1.1]; first | exact Or.inl h22 | exact Or.inr h33)]
            simp [mm_set, h1.1, h1.2]
set_option maxRecDepth 100000 in
set_option maxHeartbeats 400000 in
theorem sY_drop {E : mm_E} {G : mm_G} {J : mm_J} (hG : mm_GI G) {c a b : Nat} (hc : J 60 2 = nI c) (hc2 : c ≤ 24) : mm_Met E qY_drop [.ref 60, .int (nI a), .int (nI b)] 86 J G (ed_DP J G c a b) := by
  refine mm_Met.of qY_drop_ok (by decide) (mm_cats rfl) (Nat.le_of_ble_eq_true rfl) ?_
  refine mm_iconst (v := nI 0) rfl (by decide) ?_
  refine mm_istore_n rfl (by decide) ?_
  refine mm_iconst (v := nI 0) rfl (by decide) ?_
  refine mm_istore rfl (by decide) ?_
  exact lY_drop (J0 := J) hG hc2 c 0 0 rfl (by omega) hc (by omega) (fun _ _ => ⟨rfl, rfl⟩) rfl rfl (fun _ _ _ _ => rfl)
def ed_row (pd key : Nat) : Nat := pd + (key + 1) * (ed_sp pd / 17)
def ed_skV (bd : Nat → Nat) (row c : Nat) : Nat → Nat → Nat
  | 0, v => v
  | n + 1, v => ed_skV bd row c n (if ed_lg (bd (c - (n + 1))) row = true then row else v)
set_option maxRecDepth 100000 in
set_option maxHeartbeats 4000000 in
theorem lY_strokeN {E : mm_E} {G : mm_G} {J : mm_J} (hG : mm_GI G) {c key row : Nat} {bd : Nat → Nat} (hc : J 60 2 = nI c) (hc2 : c ≤ 24) (hb : ∀ i, i < c → J 61 i = nI (bd i) ∧ bd i < 5000) (hrow : row < 6000) : ∀ (n i v : Nat), c - i = n → i ≤ c → (∀ j, i ≤ j → j < c → ¬ bd j = row) → (v = 0 ∨ v = row) → mm_Go E qY_stroke 27 [some (.ref 60), some (.int (nI key)), some (.int (nI row)), some (.int (nI i))] [] 86 (mm_set J 60 3 (nI v)) G 0 0 (mm_Fm E qY_stroke (mm_is (some (.int (if ed_skV bd row c n v = 0 then -4 else nI 1000))) 86 (mm_set J 60 3 (nI (ed_skV bd row c n v))) G))
  | 0, i, v, hn, hi, hne, hv => by
    have hvb : v < 2 ^ 31 := by omega
    refine mm_iload_n rfl rfl ?_
    refine mm_aload_n rfl rfl ?_
    refine mm_getI (x := nI c) rfl rfl rfl (by decide) rfl (by simp [mm_set, hc]) ?_
    refine mm_icmp_geN (tgt := 76) rfl (by decide) (by omega) (by omega) (fun h32 => ?_) (fun h32 => ?_)
    · refine mm_aload_n rfl rfl ?_
      refine mm_getI (x := nI v) rfl rfl rfl (by decide) rfl (by simp [mm_set]) ?_
      refine mm_if_neN (tgt := 88) rfl (by decide) (by omega) (fun h80 => ?_) (fun h80 => ?_)
      · refine mm_sipush (v := nI 1000) rfl (by decide) ?_
        refine mm_ireturn rfl rfl rfl (by decide) (by decide) ?_
        exact ⟨by rw [show ed_skV bd row c 0 v = v from rfl, if_neg h80], rfl, rfl, rfl⟩
      · refine mm_bipush (v := -4) rfl (by decide) ?_
        refine mm_goto (tgt := 91) rfl (by decide) ?_
        refine mm_ireturn rfl rfl rfl (by decide) (by decide) ?_
        exact ⟨by rw [show ed_skV bd row c 0 v = v from rfl, if_pos h80], rfl, rfl, rfl⟩
    · exact absurd h32 (by omega)
  | n + 1, i, v, hn, hi, hne, hv => by
    have hbi := hb i (by omega)
    refine mm_iload_n rfl rfl ?_
    refine mm_aload_n rfl rfl ?_
    refine mm_getI (x := nI c) rfl rfl rfl (by decide) rfl (by simp [mm_set, hc]) ?_
    refine mm_icmp_geN (tgt := 76) rfl (by decide) (by omega) (by omega) (fun h32 => ?_) (fun h32 => ?_)
    · exact absurd h32 (by omega)
    · refine mm_aload_n rfl rfl ?_
      refine mm_getR rfl rfl rfl (by decide) rfl (mm_gi hG 60 0 61 (by decide)) ?_
      refine mm_iload_n rfl rfl ?_
      refine mm_rdN (x := nI (bd i)) rfl (by decide) rfl (by decide) (by omega) (by decide) rfl (by simp [mm_set, (hb i (by omega)).1]) ?_
      refine mm_iload_n rfl rfl ?_
      refine mm_icmp_neN (tgt := 52) rfl (by decide) (by omega) (by omega) (fun h42 => ?_) (fun h42 => ?_)
      · refine mm_aload_n rfl rfl ?_
        refine mm_getR rfl rfl rfl (by decide) rfl (mm_gi hG 60 0 61 (by decide)) ?_
        refine mm_iload_n rfl rfl ?_
        refine mm_rdN (x := nI (bd i)) rfl (by decide) rfl (by decide) (by omega) (by decide) rfl (by simp [mm_set, (hb i (by omega)).1]) ?_
        refine mm_iload_n rfl rfl ?_
        refine mm_isS2 (M2 := qY_isLonger) wd_287 qY_isLonger_k (by decide) (sY_isLonger (by omega) (by omega)) (Nat.le_of_ble_eq_true rfl) (by decide) (by decide) rfl (by decide) ?_
        refine mm_if_eqN (tgt := 70) rfl (by decide) (ed_b31 _) (fun h62 => ?_) (fun h62 => ?_)
        · refine mm_iincN rfl rfl (mm_inc1 _) (by decide) ?_
          refine mm_goto (tgt := 27) rfl (by decide) ?_
          rw [show ed_skV bd row c (n + 1) v = ed_skV bd row c n v from by rw [ed_skV, show c - (n + 1) = i by omega, if_neg (by rw [ed_beq h62]; decide)]]
          exact lY_strokeN hG hc hc2 hb hrow n (i + 1) v (by omega) (by omega) (fun j h1 h2 => hne j (by omega) h2) hv
        · refine mm_aload_n rfl rfl ?_
          refine mm_iload_n rfl rfl ?_
          refine mm_putI rfl rfl rfl (by decide) rfl (Or.inl rfl) rfl rfl ?_
          refine mm_iincN rfl rfl (mm_inc1 _) (by decide) ?_
          refine mm_goto (tgt := 27) rfl (by decide) ?_
          rw [mm_set_set]
          rw [show ed_skV bd row c (n + 1) v = ed_skV bd row c n row from by rw [ed_skV, show c - (n + 1) = i by omega, if_pos (ed_bne h62)]]
          exact lY_strokeN hG hc hc2 hb hrow n (i + 1) row (by omega) (by omega) (fun j h1 h2 => hne j (by omega) h2) (Or.inr rfl)
      · exact absurd h42 (hne i (by omega) h32)
set_option maxRecDepth 100000 in
set_option maxHeartbeats 4000000 in
theorem lY_strokeE {E : mm_E} {G : mm_G} {J : mm_J} (hG : mm_GI G) {c key row : Nat} {bd : Nat → Nat} (hc : J 60 2 = nI c) (hc2 : c ≤ 24) (hb : ∀ i, i < c → J 61 i = nI (bd i) ∧ bd i < 5000) (hrow : row < 6000) {i0 : Nat} (h0 : i0 < c) (he : bd i0 = row) (hf : ∀ j, j < i0 → ¬ bd j = row) (hl : ∀ j, j < c → ed_lg (bd j) row = false) : ∀ (n i : Nat), i0 - i = n → i ≤ i0 → mm_Go E qY_stroke 27 [some (.ref 60), some (.int (nI key)), some (.int (nI row)), some (.int (nI i))] [] 86 (mm_set J 60 3 (nI 0)) G 0 0 (mm_Fm E qY_stroke (mm_is (some (.int (J 62 i0))) 86 (mm_set J 60 3 (nI 0)) G))
  | 0, i, hn, hi => by
    have hbi := hb i (by omega)
    refine mm_iload_n rfl rfl ?_
    refine mm_aload_n rfl rfl ?_
    refine mm_getI (x := nI c) rfl rfl rfl (by decide) rfl (by simp [mm_set, hc]) ?_
    refine mm_icmp_geN (tgt := 76) rfl (by decide) (by omega) (by omega) (fun h32 => ?_) (fun h32 => ?_)
    · exact absurd h32 (by omega)
    · refine mm_aload_n rfl rfl ?_
      refine mm_getR rfl rfl rfl (by decide) rfl (mm_gi hG 60 0 61 (by decide)) ?_
      refine mm_iload_n rfl rfl ?_
      refine mm_rdN (x := nI (bd i)) rfl (by decide) rfl (by decide) (by omega) (by decide) rfl (by simp [mm_set, (hb i (by omega)).1]) ?_
      refine mm_iload_n rfl rfl ?_
      refine mm_icmp_neN (tgt := 52) rfl (by decide) (by omega) (by omega) (fun h42 => ?_) (fun h42 => ?_)
      · exact absurd (by rw [show i = i0 by omega]; exact he) h42
      · refine mm_aload_n rfl rfl ?_
        refine mm_getR rfl rfl rfl (by decide) rfl (mm_gi hG 60 1 62 (by decide)) ?_
        refine mm_iload_n rfl rfl ?_
        refine mm_rdN rfl (by decide) rfl (by decide) (by omega) (by decide) rfl rfl ?_
        refine mm_ireturn rfl rfl rfl (by decide) (by decide) ?_
        exact ⟨by rw [show i = i0 by omega]; simp [mm_set], rfl, rfl, rfl⟩
  | n + 1, i, hn, hi => by
    have hbi := hb i (by omega)
    refine mm_iload_n rfl rfl ?_
    refine mm_aload_n rfl rfl ?_
    refine mm_getI (x := nI c) rfl rfl rfl (by decide) rfl (by simp [mm_set, hc]) ?_
    refine mm_icmp_geN (tgt := 76) rfl (by decide) (by omega) (by omega) (fun h32 => ?_) (fun h32 => ?_)
    · exact absurd h32 (by omega)
    · refine mm_aload_n rfl rfl ?_
      refine mm_getR rfl rfl rfl (by decide) rfl (mm_gi hG 60 0 61 (by decide)) ?_
      refine mm_iload_n rfl rfl ?_
      refine mm_rdN (x := nI (bd i)) rfl (by decide) rfl (by decide) (by omega) (by decide) rfl (by simp [mm_set, (hb i (by omega)).1]) ?_
      refine mm_iload_n rfl rfl ?_
      refine mm_icmp_neN (tgt := 52) rfl (by decide) (by omega) (by omega) (fun h42 => ?_) (fun h42 => ?_)
      · refine mm_aload_n rfl rfl ?_
        refine mm_getR rfl rfl rfl (by decide) rfl (mm_gi hG 60 0 61 (by decide)) ?_
        refine mm_iload_n rfl rfl ?_
        refine mm_rdN (x := nI (bd i)) rfl (by decide) rfl (by decide) (by omega) (by decide) rfl (by simp [mm_set, (hb i (by omega)).1]) ?_
        refine mm_iload_n rfl rfl ?_
        refine mm_isS2 (M2 := qY_isLonger) wd_287 qY_isLonger_k (by decide) (sY_isLonger (by omega) (by omega)) (Nat.le_of_ble_eq_true rfl) (by decide) (by decide) rfl (by decide) ?_
        refine mm_if_eqN (tgt := 70) rfl (by decide) (ed_b31 _) (fun h62 => ?_) (fun h62 => ?_)
        · refine mm_iincN rfl rfl (mm_inc1 _) (by decide) ?_
          refine mm_goto (tgt := 27) rfl (by decide) ?_
          exact lY_strokeE hG hc hc2 hb hrow h0 he hf hl n (i + 1) (by omega) (by omega)
        · exact absurd (hl i (by omega)) (by rw [ed_bne h62]; decide)
      · exact absurd h42 (hf i (by omega))
set_option maxRecDepth 100000 in
set_option maxHeartbeats 4000000 in
theorem sY_strokeN {E : mm_E} {G : mm_G} {J : mm_J} (hG : mm_GI G) {c key pd : Nat} {bd : Nat → Nat} (hc : J 60 2 = nI c) (hc2 : c ≤ 24) (hb : ∀ i, i < c → J 61 i = nI (bd i) ∧ bd i < 5000) (hkey : key ≤ 15) (hpd : J 60 3 = nI pd) (hrow : ed_row pd key < 6000) (hne : ∀ j, j < c → ¬ bd j = ed_row pd key) : mm_Ret E qY_stroke [.ref 60, .int (nI key)] 86 J G (some (.int (if ed_skV bd (ed_row pd key) c c 0 = 0 then -4 else nI 1000))) 86 (mm_set J 60 3 (nI (ed_skV bd (ed_row pd key) c c 0))) G := by
  refine mm_Met.of qY_stroke_ok (by decide) (mm_cats rfl) (Nat.le_of_ble_eq_true rfl) ?_
  have hsp := ed_sp_le pd
  have hpd2 : pd < 6000 := by unfold ed_row at hrow; omega
  refine mm_aload_n rfl rfl ?_
  refine mm_getI (x := nI pd) rfl rfl rfl (by decide) rfl hpd ?_
  refine mm_iload_n rfl rfl ?_
  refine mm_iconst (v := nI 1) rfl (by decide) ?_
  refine mm_iaddN rfl ?_
  refine mm_aload_n rfl rfl ?_
  refine mm_getI (x := nI pd) rfl rfl rfl (by decide) rfl hpd ?_
  refine mm_isS1 (M2 := qY_span) wd_284 qY_span_k (by decide) (sY_span (by omega)) (Nat.le_of_ble_eq_true rfl) (by decide) (by decide) rfl (by decide) ?_
  refine mm_bipush (v := nI 17) rfl (by decide) ?_
  refine mm_idivN rfl (by omega) (by omega) (by omega) ?_
  refine mm_imulN rfl ?_
  refine mm_iaddN rfl ?_
  refine mm_istore_n rfl (by decide) ?_
  refine mm_aload_n rfl rfl ?_
  refine mm_iconst (v := nI 0) rfl (by decide) ?_
  refine mm_putI rfl rfl rfl (by decide) rfl (Or.inl rfl) rfl rfl ?_
  refine mm_iconst (v := nI 0) rfl (by decide) ?_
  refine mm_istore_n rfl (by decide) ?_
  exact lY_strokeN (row := ed_row pd key) hG hc hc2 hb hrow c 0 0 rfl (by omega) (fun j _ h => hne j h) (Or.inl rfl)
set_option maxRecDepth 100000 in
set_option maxHeartbeats 4000000 in
theorem sY_strokeE {E : mm_E} {G : mm_G} {J : mm_J} (hG : mm_GI G) {c key pd : Nat} {bd : Nat → Nat} (hc : J 60 2 = nI c) (hc2 : c ≤ 24) (hb : ∀ i, i < c → J 61 i = nI (bd i) ∧ bd i < 5000) (hkey : key ≤ 15) (hpd : J 60 3 = nI pd) (hrow : ed_row pd key < 6000) {i0 : Nat} (h0 : i0 < c) (he : bd i0 = ed_row pd key) (hf : ∀ j, j < i0 → ¬ bd j = ed_row pd key) (hl : ∀ j, j < c → ed_lg (bd j) (ed_row pd key) = false) : mm_Ret E qY_stroke [.ref 60, .int (nI key)] 86 J G (some (.int (J 62 i0))) 86 (mm_set J 60 3 (nI 0)) G := by
  refine mm_Met.of qY_stroke_ok (by decide) (mm_cats rfl) (Nat.le_of_ble_eq_true rfl) ?_
  have hsp := ed_sp_le pd
  have hpd2 : pd < 6000 := by unfold ed_row at hrow; omega
  refine mm_aload_n rfl rfl ?_
  refine mm_getI (x := nI pd) rfl rfl rfl (by decide) rfl hpd ?_
  refine mm_iload_n rfl rfl ?_
  refine mm_iconst (v := nI 1) rfl (by decide) ?_
  refine mm_iaddN rfl ?_
  refine mm_aload_n rfl rfl ?_
  refine mm_getI (x := nI pd) rfl rfl rfl (by decide) rfl hpd ?_
  refine mm_isS1 (M2 := qY_span) wd_284 qY_span_k (by decide) (sY_span (by omega)) (Nat.le_of_ble_eq_true rfl) (by decide) (by decide) rfl (by decide) ?_
  refine mm_bipush (v := nI 17) rfl (by decide) ?_
  refine mm_idivN rfl (by omega) (by omega) (by omega) ?_
  refine mm_imulN rfl ?_
  refine mm_iaddN rfl ?_
  refine mm_istore_n rfl (by decide) ?_
  refine mm_aload_n rfl rfl ?_
  refine mm_iconst (v := nI 0) rfl (by decide) ?_
  refine mm_putI rfl rfl rfl (by decide) rfl (Or.inl rfl) rfl rfl ?_
  refine mm_iconst (v := nI 0) rfl (by decide) ?_
  refine mm_istore_n rfl (by decide) ?_
  exact lY_strokeE (row := ed_row pd key) hG hc hc2 hb hrow h0 he hf hl i0 0 rfl (by omega)
