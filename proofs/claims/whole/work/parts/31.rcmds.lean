def ed_RB (J : mm_J) (n m : Nat) : Prop := J 69 3 = nI n ∧ n ≤ 100 ∧ ed_vp (J 69 6) ∧ (∀ i, i < 4 → ed_vp (J 73 i)) ∧ (∀ i, i < 4 → ed_vb (J 74 i)) ∧ J 69 23 = nI m ∧ m < 2 ^ 30
theorem ed_RB.ri {J J1 : mm_J} {n m s : Nat} (h : ed_RB J n m) (e : ∀ k, ¬ k = 4 → J1 69 k = J 69 k) (e73 : J1 73 = J 73) (e74 : J1 74 = J 74) (hs : J1 69 4 = nI s) (hs2 : s ≤ 100) : ed_RI J1 n m s := by
  unfold ed_RI
  rw [e 3 (by decide), e 6 (by decide), e 23 (by decide), e73, e74]
  exact ⟨h.1, h.2.1, hs, hs2, h.2.2.1, h.2.2.2.1, h.2.2.2.2.1, h.2.2.2.2.2.1, h.2.2.2.2.2.2⟩
theorem ed_Re_f {J : mm_J} {n p d s k : Nat} (h : ¬ k = 3 ∧ ¬ k = 6) : ed_Re J n p d s 69 k = J 69 k := by
  simp [ed_Re, ed_mk, ed_tx, mm_set, mm_cp, h.1, h.2]
theorem ed_Re_o {J : mm_J} {n p d s a k : Nat} (h : ¬ a = 69 ∧ ¬ a = 70 ∧ ¬ a = 71 ∧ ¬ a = 73) : ed_Re J n p d s a k = J a k := by
  simp [ed_Re, ed_mk, ed_tx, mm_set, mm_cp, h.1, h.2.1, h.2.2.1, h.2.2.2]
theorem ed_Rs_f {J : mm_J} {n m p d s k : Nat} (h : ¬ k = 23) : ed_Rs J n m p d s 69 k = J 69 k := by
  simp [ed_Rs, mm_set, mm_cp, h]
theorem ed_Rs_o {J : mm_J} {n m p d s a k : Nat} (h : ¬ a = 69 ∧ ¬ (77 ≤ a ∧ a ≤ 81)) : ed_Rs J n m p d s a k = J a k := by
  simp [ed_Rs, mm_set, mm_cp, h.1, show ¬ a = 77 by omega, show ¬ a = 78 by omega, show ¬ a = 79 by omega, show ¬ a = 80 by omega, show ¬ a = 81 by omega]
def ed_RS (J : mm_J) (n m p d s : Nat) : mm_J := ed_Re (ed_Rs J n m p d s) n p d s
theorem ed_RS_f {J : mm_J} {n m p d s k : Nat} (h : ¬ k = 3 ∧ ¬ k = 6 ∧ ¬ k = 23) : ed_RS J n m p d s 69 k = J 69 k := by
  unfold ed_RS
  rw [ed_Re_f (by omega), ed_Rs_f h.2.2]
def ed_fr (J : mm_J) (c : Int32) (i : Nat) : mm_J := fun a b => if a = 72 ∧ b < i then c else J a b
theorem ed_fr_s (J : mm_J) (c : Int32) (i : Nat) : mm_set (ed_fr J c i) 72 i c = ed_fr J c (i + 1) := by
  funext a b
  unfold mm_set ed_fr
  by_cases ha : a = 72
  · subst ha
    by_cases hb : b = i
    · subst hb
      simp
    · by_cases h : b < i
      · simp [hb, h, Nat.lt_succ_of_lt h]
      · simp [hb, h, show ¬ b < i + 1 by omega]
  · simp [ha]
theorem ed_fr_0 (J : mm_J) (c : Int32) : ed_fr J c 0 = J := by
  funext a b
  simp [ed_fr]
theorem ed_at_s (f g : Nat → Int32) (p i : Nat) : ed_at f g p (i + 1) = (ed_at f g p i && decide (f (p + i) = g i)) := by
  unfold ed_at
  rw [Bool.eq_iff_iff]
  simp only [decide_eq_true_eq, Bool.and_eq_true]
  constructor
  · exact fun h => ⟨fun j hj => h j (by omega), h i (by omega)⟩
  · intro h j hj
    rcases Nat.lt_or_eq_of_le (Nat.le_of_lt_succ hj) with e | e
    · exact h.1 j e
    · rw [e]; exact h.2
set_option maxRecDepth 100000 in
set_option maxHeartbeats 4000000 in
theorem sR_insertX {E : mm_E} {G : mm_G} {J : mm_J} {c : Int32} (h : ¬ ed_ch c) : mm_Ret E qR_insert [.ref 69, .int c] 86 J G (some (.int (-1))) 86 J G := by
  refine mm_Met.of qR_insert_ok (by decide) (mm_cats rfl) (Nat.le_of_ble_eq_true rfl) ?_
  refine mm_iload_n rfl rfl ?_
  refine mm_isS1 (M2 := qR_letter) wd_635 qR_letter_k (by decide) sR_letter (Nat.le_of_ble_eq_true rfl) (by decide) (by decide) rfl (by decide) ?_
  refine mm_if_neN (tgt := 21) rfl (by decide) (ed_b31 _) (fun h4 => ?_) (fun h4 => ?_)
  · exact absurd (Or.inl (ed_bne h4)) h
  · refine mm_iload_n rfl rfl ?_
    refine mm_bipush (v := nI 32) rfl (by decide) ?_
    refine mm_icmp_eq (tgt := 21) rfl (by decide) (fun h10 => ?_) (fun h10 => ?_)
    · exact absurd (Or.inr (Or.inl h10)) h
    · refine mm_iload_n rfl rfl ?_
      refine mm_bipush (v := nI 10) rfl (by decide) ?_
      refine mm_icmp_eq (tgt := 21) rfl (by decide) (fun h16 => ?_) (fun h16 => ?_)
      · exact absurd (Or.inr (Or.inr h16)) h
      · refine mm_iconst (v := -1) rfl (by decide) ?_
        refine mm_ireturn rfl rfl rfl (by decide) (by decide) ?_
        exact ⟨rfl, rfl, rfl, rfl⟩
set_option maxRecDepth 100000 in
set_option maxHeartbeats 4000000 in
theorem lR_insert {E : mm_E} {G : mm_G} {J : mm_J} (hG : mm_GI G) {t : Nat} {c : Int32} {F : mm_F} (ht : J 69 7 = nI t) (ht9 : t ≤ 9) (kk : mm_Go E qR_insert 69 [some (.ref 69), some (.int c), some (.int (nI t))] [] 86 (ed_fr J c t) G 0 0 F) : ∀ (k i : Nat), t - i = k → i ≤ t → mm_Go E qR_insert 48 [some (.ref 69), some (.int c), some (.int (nI i))] [] 86 (ed_fr J c i) G 0 0 F
  | 0, i, hk, hi => by
    refine mm_iload_n rfl rfl ?_
    refine mm_aload_n rfl rfl ?_
    refine mm_getI (x := nI t) rfl rfl rfl (by decide) rfl (by simp [ed_fr, ht]) ?_
    refine mm_icmp_geN (tgt := 69) rfl (by decide) (by omega) (by omega) (fun h53 => ?_) (fun h53 => ?_)
    · obtain rfl : t = i := by omega
      exact kk
    · exact absurd h53 (by omega)
  | k + 1, i, hk, hi => by
    refine mm_iload_n rfl rfl ?_
    refine mm_aload_n rfl rfl ?_
    refine mm_getI (x := nI t) rfl rfl rfl (by decide) rfl (by simp [ed_fr, ht]) ?_
    refine mm_icmp_geN (tgt := 69) rfl (by decide) (by omega) (by omega) (fun h53 => ?_) (fun h53 => ?_)
    · exact absurd h53 (by omega)
    · refine mm_aload_n rfl rfl ?_
      refine mm_getR rfl rfl rfl (by decide) rfl (mm_gi hG 69 2 72 (by decide)) ?_
      refine mm_iload_n rfl rfl ?_
      refine mm_iload_n rfl rfl ?_
      refine mm_wrN rfl (by decide) rfl (by decide) (by omega) (by decide) rfl ?_
      refine mm_iincN rfl rfl (mm_inc1 _) (by decide) ?_
      refine mm_goto (tgt := 48) rfl (by decide) ?_
      rw [ed_fr_s]
      exact lR_insert hG ht ht9 kk k (i + 1) (by omega) (by omega)
set_option maxRecDepth 100000 in
set_option maxHeartbeats 4000000 in
theorem sR_insert0 {E : mm_E} {G : mm_G} {J : mm_J} (hG : mm_GI G) {n m : Nat} (hT : ed_RB J n m) {q t : Nat} {c : Int32} (hch : ed_ch c) (ht : J 69 7 = nI t) (ht9 : t ≤ 9) (hp : J 69 5 = nI q) (hq : q ≤ n) (h : 100 < n + t) : mm_Ret E qR_insert [.ref 69, .int c] 86 J G (some (.int (-3))) 86 J G := by
  refine mm_Met.of qR_insert_ok (by decide) (mm_cats rfl) (Nat.le_of_ble_eq_true rfl) ?_
  have hn2 := hT.2.1
  have hm2 := hT.2.2.2.2.2.2
  refine mm_iload_n rfl rfl ?_
  refine mm_isS1 (M2 := qR_letter) wd_635 qR_letter_k (by decide) sR_letter (Nat.le_of_ble_eq_true rfl) (by decide) (by decide) rfl (by decide) ?_
  refine mm_if_neN (tgt := 21) rfl (by decide) (ed_b31 _) (fun h4 => ?_) (fun h4 => ?_)
  · refine mm_aload_n rfl rfl ?_
    refine mm_getI (x := nI n) rfl rfl rfl (by decide) rfl hT.1 ?_
    refine mm_aload_n rfl rfl ?_
    refine mm_getI (x := nI t) rfl rfl rfl (by decide) rfl ht ?_
    refine mm_iaddN rfl ?_
    refine mm_bipush (v := nI 100) rfl (by decide) ?_
    refine mm_icmp_leN (tgt := 38) rfl (by decide) (by omega) (by omega) (fun h32 => ?_) (fun h32 => ?_)
    · exact absurd h32 (by omega)
    · refine mm_bipush (v := -3) rfl (by decide) ?_
      refine mm_ireturn rfl rfl rfl (by decide) (by decide) ?_
      exact ⟨rfl, rfl, rfl, rfl⟩
  · refine mm_iload_n rfl rfl ?_
    refine mm_bipush (v := nI 32) rfl (by decide) ?_
    refine mm_icmp_eq (tgt := 21) rfl (by decide) (fun h10 => ?_) (fun h10 => ?_)
    · refine mm_aload_n rfl rfl ?_
      refine mm_getI (x := nI n) rfl rfl rfl (by decide) rfl hT.1 ?_
      refine mm_aload_n rfl rfl ?_
      refine mm_getI (x := nI t) rfl rfl rfl (by decide) rfl ht ?_
      refine mm_iaddN rfl ?_
      refine mm_bipush (v := nI 100) rfl (by decide) ?_
      refine mm_icmp_leN (tgt := 38) rfl (by decide) (by omega) (by omega) (fun h32 => ?_) (fun h32 => ?_)
      · exact absurd h32 (by omega)
      · refine mm_bipush (v := -3) rfl (by decide) ?_
        refine mm_ireturn rfl rfl rfl (by decide) (by decide) ?_
        exact ⟨rfl, rfl, rfl, rfl⟩
    · refine mm_iload_n rfl rfl ?_
      refine mm_bipush (v := nI 10) rfl (by decide) ?_
      refine mm_icmp_eq (tgt := 21) rfl (by decide) (fun h16 => ?_) (fun h16 => ?_)
      · refine mm_aload_n rfl rfl ?_
        refine mm_getI (x := nI n) rfl rfl rfl (by decide) rfl hT.1 ?_
        refine mm_aload_n rfl rfl ?_
        refine mm_getI (x := nI t) rfl rfl rfl (by decide) rfl ht ?_
        refine mm_iaddN rfl ?_
        refine mm_bipush (v := nI 100) rfl (by decide) ?_
        refine mm_icmp_leN (tgt := 38) rfl (by decide) (by omega) (by omega) (fun h32 => ?_) (fun h32 => ?_)
        · exact absurd h32 (by omega)
        · refine mm_bipush (v := -3) rfl (by decide) ?_
          refine mm_ireturn rfl rfl rfl (by decide) (by decide) ?_
          exact ⟨rfl, rfl, rfl, rfl⟩
      · exact hch.elim (fun e => absurd e (by rw [ed_beq h4]; decide)) (fun e => e.elim (fun e => absurd e h10) (fun e => absurd e h16))
set_option maxRecDepth 100000 in
set_option maxHeartbeats 4000000 in
theorem sR_insert1 {E : mm_E} {G : mm_G} {J : mm_J} (hG : mm_GI G) {n m : Nat} (hT : ed_RB J n m) {q t : Nat} {c : Int32} (hch : ed_ch c) (ht : J 69 7 = nI t) (ht9 : t ≤ 9) (hp : J 69 5 = nI q) (hq : q ≤ n) {u : Nat} (hu : J 69 8 = nI 100 → J 81 (m % 20) = nI u) (hu2 : u ≤ 100) (h : n + t ≤ 100) (hj : ¬ (J 69 8 = nI 100 ∧ u ≤ 7)) : mm_Ret E qR_insert [.ref 69, .int c] 86 J G (some (.int (nI 0))) 86 (mm_set (mm_set (mm_set (ed_RS (ed_fr (mm_set J 69 4 (nI t)) c t) n m q 0 t) 69 5 (nI (q + t))) 69 8 (nI 100)) 69 7 (nI 1)) G := by
  refine mm_Met.of qR_insert_ok (by decide) (mm_cats rfl) (Nat.le_of_ble_eq_true rfl) ?_
  have hn2 := hT.2.1
  have hm2 := hT.2.2.2.2.2.2
  refine mm_iload_n rfl rfl ?_
  refine mm_isS1 (M2 := qR_letter) wd_635 qR_letter_k (by decide) sR_letter (Nat.le_of_ble_eq_true rfl) (by decide) (by decide) rfl (by decide) ?_
  refine mm_if_neN (tgt := 21) rfl (by decide) (ed_b31 _) (fun h4 => ?_) (fun h4 => ?_)
  · refine mm_aload_n rfl rfl ?_
    refine mm_getI (x := nI n) rfl rfl rfl (by decide) rfl hT.1 ?_
    refine mm_aload_n rfl rfl ?_
    refine mm_getI (x := nI t) rfl rfl rfl (by decide) rfl ht ?_
    refine mm_iaddN rfl ?_
    refine mm_bipush (v := nI 100) rfl (by decide) ?_
    refine mm_icmp_leN (tgt := 38) rfl (by decide) (by omega) (by omega) (fun h32 => ?_) (fun h32 => ?_)
    · refine mm_aload_n rfl rfl ?_
      refine mm_aload_n rfl rfl ?_
      refine mm_getI (x := nI t) rfl rfl rfl (by decide) rfl ht ?_
      refine mm_putI rfl rfl rfl (by decide) rfl (Or.inl rfl) rfl rfl ?_
      refine mm_iconst (v := nI 0) rfl (by decide) ?_
      refine mm_istore_n rfl (by decide) ?_
      refine mm_J_eq (ed_fr_0 _ c).symm (lR_insert (J := mm_set J 69 4 (nI t)) hG (by simp [mm_set, ht]) ht9 ?_ t 0 rfl (by omega))
      refine mm_aload_n rfl rfl ?_
      refine mm_getI (x := J 69 8) rfl rfl rfl (by decide) rfl (by simp [ed_fr, mm_set]) ?_
      refine mm_bipush (v := nI 100) rfl (by decide) ?_
      refine mm_icmp_ne (tgt := 126) rfl (by decide) (fun h75 => ?_) (fun h75 => ?_)
      · refine mm_aload_n rfl rfl ?_
        refine mm_aload_n rfl rfl ?_
        refine mm_getI (x := nI q) rfl rfl rfl (by decide) rfl (by simp [ed_fr, mm_set, hp]) ?_
        refine mm_iconst (v := nI 0) rfl (by decide) ?_
        refine mm_isV2 (M2 := qR_step) wd_645 qR_step_k (by decide) (sR_step (J := (ed_fr (mm_set J 69 4 (nI t)) c t)) hG (hT.ri (J1 := (ed_fr (mm_set J 69 4 (nI t)) c t)) (s := t) (fun k hk => by simp [ed_fr, mm_set, hk]) rfl rfl (by simp [ed_fr, mm_set]) (by omega)) (by omega) (by omega)) rfl (by decide) (Nat.le_of_ble_eq_true rfl) (by decide) (by decide) rfl (by decide) ?_
        refine mm_aload_n rfl rfl ?_
        refine mm_dup rfl rfl ?_
        refine mm_getI (x := nI q) rfl rfl rfl (by decide) rfl ((ed_RS_f (by decide)).trans (by simp [ed_fr, mm_set, hp])) ?_
        refine mm_aload_n rfl rfl ?_
        refine mm_getI (x := nI t) rfl rfl rfl (by decide) rfl ((ed_RS_f (by decide)).trans (by simp [ed_fr, mm_set, ht])) ?_
        refine mm_iaddN rfl ?_
        refine mm_putI rfl rfl rfl (by decide) rfl (Or.inl rfl) rfl rfl ?_
        refine mm_aload_n rfl rfl ?_
        refine mm_bipush (v := nI 100) rfl (by decide) ?_
        refine mm_isV1 (M2 := qR_done) wd_649 qR_done_k (by decide) sR_done rfl (by decide) (Nat.le_of_ble_eq_true rfl) (by decide) (by decide) rfl (by decide) ?_
        refine mm_ireturn rfl rfl rfl (by decide) (by decide) ?_
        exact ⟨rfl, rfl, rfl, rfl⟩
      · refine mm_aload_n rfl rfl ?_
        refine mm_getR rfl rfl rfl (by decide) rfl (mm_gi hG 69 22 81 (by decide)) ?_
        refine mm_aload_n rfl rfl ?_
        refine mm_getI (x := nI m) rfl rfl rfl (by decide) rfl (by simp [ed_fr, mm_set, hT.2.2.2.2.2.1]) ?_
        refine mm_bipush (v := nI 20) rfl (by decide) ?_
        refine mm_iremN rfl (by omega) (by omega) (by omega) ?_
        refine mm_rdN (x := nI u) rfl (by decide) rfl (by decide) ed_mod (by decide) rfl (by simp [ed_fr, mm_set]; exact hu h75) ?_
        refine mm_bipush (v := nI 7) rfl (by decide) ?_
        refine mm_icmp_gtN (tgt := 126) rfl (by decide) (by omega) (by omega) (fun h92 => ?_) (fun h92 => ?_)
        · refine mm_aload_n rfl rfl ?_
          refine mm_aload_n rfl rfl ?_
          refine mm_getI (x := nI q) rfl rfl rfl (by decide) rfl (by simp [ed_fr, mm_set, hp]) ?_
          refine mm_iconst (v := nI 0) rfl (by decide) ?_
          refine mm_isV2 (M2 := qR_step) wd_645 qR_step_k (by decide) (sR_step (J := (ed_fr (mm_set J 69 4 (nI t)) c t)) hG (hT.ri (J1 := (ed_fr (mm_set J 69 4 (nI t)) c t)) (s := t) (fun k hk => by simp [ed_fr, mm_set, hk]) rfl rfl (by simp [ed_fr, mm_set]) (by omega)) (by omega) (by omega)) rfl (by decide) (Nat.le_of_ble_eq_true rfl) (by decide) (by decide) rfl (by decide) ?_
          refine mm_aload_n rfl rfl ?_
          refine mm_dup rfl rfl ?_
          refine mm_getI (x := nI q) rfl rfl rfl (by decide) rfl ((ed_RS_f (by decide)).trans (by simp [ed_fr, mm_set, hp])) ?_
          refine mm_aload_n rfl rfl ?_
          refine mm_getI (x := nI t) rfl rfl rfl (by decide) rfl ((ed_RS_f (by decide)).trans (by simp [ed_fr, mm_set, ht])) ?_
          refine mm_iaddN rfl ?_
          refine mm_putI rfl rfl rfl (by decide) rfl (Or.inl rfl) rfl rfl ?_
          refine mm_aload_n rfl rfl ?_
          refine mm_bipush (v := nI 100) rfl (by decide) ?_
          refine mm_isV1 (M2 := qR_done) wd_649 qR_done_k (by decide) sR_done rfl (by decide) (Nat.le_of_ble_eq_true rfl) (by decide) (by decide) rfl (by decide) ?_
          refine mm_ireturn rfl rfl rfl (by decide) (by decide) ?_
          exact ⟨rfl, rfl, rfl, rfl⟩
        · exact absurd ⟨h75, by omega⟩ hj
    · exact absurd h32 (by omega)
  · refine mm_iload_n rfl rfl ?_
    refine mm_bipush (v := nI 32) rfl (by decide) ?_
    refine mm_icmp_eq (tgt := 21) rfl (by decide) (fun h10 => ?_) (fun h10 => ?_)
    · refine mm_aload_n rfl rfl ?_
      refine mm_getI (x := nI n) rfl rfl rfl (by decide) rfl hT.1 ?_
      refine mm_aload_n rfl rfl ?_
      refine mm_getI (x := nI t) rfl rfl rfl (by decide) rfl ht ?_
      refine mm_iaddN rfl ?_
      refine mm_bipush (v := nI 100) rfl (by decide) ?_
      refine mm_icmp_leN (tgt := 38) rfl (by decide) (by omega) (by omega) (fun h32 => ?_) (fun h32 => ?_)
      · refine mm_aload_n rfl rfl ?_
        refine mm_aload_n rfl rfl ?_
        refine mm_getI (x := nI t) rfl rfl rfl (by decide) rfl ht ?_
        refine mm_putI rfl rfl rfl (by decide) rfl (Or.inl rfl) rfl rfl ?_
        refine mm_iconst (v := nI 0) rfl (by decide) ?_
        refine mm_istore_n rfl (by decide) ?_
        refine mm_J_eq (ed_fr_0 _ c).symm (lR_insert (J := mm_set J 69 4 (nI t)) hG (by simp [mm_set, ht]) ht9 ?_ t 0 rfl (by omega))
        refine mm_aload_n rfl rfl ?_
        refine mm_getI (x := J 69 8) rfl rfl rfl (by decide) rfl (by simp [ed_fr, mm_set]) ?_
        refine mm_bipush (v := nI 100) rfl (by decide) ?_
        refine mm_icmp_ne (tgt := 126) rfl (by decide) (fun h75 => ?_) (fun h75 => ?_)
        · refine mm_aload_n rfl rfl ?_
          refine mm_aload_n rfl rfl ?_
          refine mm_getI (x := nI q) rfl rfl rfl (by decide) rfl (by simp [ed_fr, mm_set, hp]) ?_
          refine mm_iconst (v := nI 0) rfl (by decide) ?_
          refine mm_isV2 (M2 := qR_step) wd_645 qR_step_k (by decide) (sR_step (J := (ed_fr (mm_set J 69 4 (nI t)) c t)) hG (hT.ri (J1 := (ed_fr (mm_set J 69 4 (nI t)) c t)) (s := t) (fun k hk => by simp [ed_fr, mm_set, hk]) rfl rfl (by simp [ed_fr, mm_set]) (by omega)) (by omega) (by omega)) rfl (by decide) (Nat.le_of_ble_eq_true rfl) (by decide) (by decide) rfl (by decide) ?_
          refine mm_aload_n rfl rfl ?_
          refine mm_dup rfl rfl ?_
          refine mm_getI (x := nI q) rfl rfl rfl (by decide) rfl ((ed_RS_f (by decide)).trans (by simp [ed_fr, mm_set, hp])) ?_
          refine mm_aload_n rfl rfl ?_
          refine mm_getI (x := nI t) rfl rfl rfl (by decide) rfl ((ed_RS_f (by decide)).trans (by simp [ed_fr, mm_set, ht])) ?_
          refine mm_iaddN rfl ?_
          refine mm_putI rfl rfl rfl (by decide) rfl (Or.inl rfl) rfl rfl ?_
          refine mm_aload_n rfl rfl ?_
          refine mm_bipush (v := nI 100) rfl (by decide) ?_
          refine mm_isV1 (M2 := qR_done) wd_649 qR_done_k (by decide) sR_done rfl (by decide) (Nat.le_of_ble_eq_true rfl) (by decide) (by decide) rfl (by decide) ?_
          refine mm_ireturn rfl rfl rfl (by decide) (by decide) ?_
          exact ⟨rfl, rfl, rfl, rfl⟩
        · refine mm_aload_n rfl rfl ?_
          refine mm_getR rfl rfl rfl (by decide) rfl (mm_gi hG 69 22 81 (by decide)) ?_
          refine mm_aload_n rfl rfl ?_
          refine mm_getI (x := nI m) rfl rfl rfl (by decide) rfl (by simp [ed_fr, mm_set, hT.2.2.2.2.2.1]) ?_
          refine mm_bipush (v := nI 20) rfl (by decide) ?_
          refine mm_iremN rfl (by omega) (by omega) (by omega) ?_
          refine mm_rdN (x := nI u) rfl (by decide) rfl (by decide) ed_mod (by decide) rfl (by simp [ed_fr, mm_set]; exact hu h75) ?_
          refine mm_bipush (v := nI 7) rfl (by decide) ?_
          refine mm_icmp_gtN (tgt := 126) rfl (by decide) (by omega) (by omega) (fun h92 => ?_) (fun h92 => ?_)
          · refine mm_aload_n rfl rfl ?_
            refine mm_aload_n rfl rfl ?_
            refine mm_getI (x := nI q) rfl rfl rfl (by decide) rfl (by simp [ed_fr, mm_set, hp]) ?_
            refine mm_iconst (v := nI 0) rfl (by decide) ?_
            refine mm_isV2 (M2 := qR_step) wd_645 qR_step_k (by decide) (sR_step (J := (ed_fr (mm_set J 69 4 (nI t)) c t)) hG (hT.ri (J1 := (ed_fr (mm_set J 69 4 (nI t)) c t)) (s := t) (fun k hk => by simp [ed_fr, mm_set, hk]) rfl rfl (by simp [ed_fr, mm_set]) (by omega)) (by omega) (by omega)) rfl (by decide) (Nat.le_of_ble_eq_true rfl) (by decide) (by decide) rfl (by decide) ?_
            refine mm_aload_n rfl rfl ?_
            refine mm_dup rfl rfl ?_
            refine mm_getI (x := nI q) rfl rfl rfl (by decide) rfl ((ed_RS_f (by decide)).trans (by simp [ed_fr, mm_set, hp])) ?_
            refine mm_aload_n rfl rfl ?_
            refine mm_getI (x := nI t) rfl rfl rfl (by decide) rfl ((ed_RS_f (by decide)).trans (by simp [ed_fr, mm_set, ht])) ?_
            refine mm_iaddN rfl ?_
            refine mm_putI rfl rfl rfl (by decide) rfl (Or.inl rfl) rfl rfl ?_
            refine mm_aload_n rfl rfl ?_
            refine mm_bipush (v := nI 100) rfl (by decide) ?_
            refine mm_isV1 (M2 := qR_done) wd_649 qR_done_k (by decide) sR_done rfl (by decide) (Nat.le_of_ble_eq_true rfl) (by decide) (by decide) rfl (by decide) ?_
            refine mm_ireturn rfl rfl rfl (by decide) (by decide) ?_
            exact ⟨rfl, rfl, rfl, rfl⟩
          · exact absurd ⟨h75, by omega⟩ hj
      · exact absurd h32 (by omega)
    · refine mm_iload_n rfl rfl ?_
      refine mm_bipush (v := nI 10) rfl (by decide) ?_
      refine mm_icmp_eq (tgt := 21) rfl (by decide) (fun h16 => ?_) (fun h16 => ?_)
      · refine mm_aload_n rfl rfl ?_
        refine mm_getI (x := nI n) rfl rfl rfl (by decide) rfl hT.1 ?_
        refine mm_aload_n rfl rfl ?_
        refine mm_getI (x := nI t) rfl rfl rfl (by decide) rfl ht ?_
        refine mm_iaddN rfl ?_
        refine mm_bipush (v := nI 100) rfl (by decide) ?_
        refine mm_icmp_leN (tgt := 38) rfl (by decide) (by omega) (by omega) (fun h32 => ?_) (fun h32 => ?_)
        · refine mm_aload_n rfl rfl ?_
          refine mm_aload_n rfl rfl ?_
          refine mm_getI (x := nI t) rfl rfl rfl (by decide) rfl ht ?_
          refine mm_putI rfl rfl rfl (by decide) rfl (Or.inl rfl) rfl rfl ?_
          refine mm_iconst (v := nI 0) rfl (by decide) ?_
          refine mm_istore_n rfl (by decide) ?_
          refine mm_J_eq (ed_fr_0 _ c).symm (lR_insert (J := mm_set J 69 4 (nI t)) hG (by simp [mm_set, ht]) ht9 ?_ t 0 rfl (by omega))
          refine mm_aload_n rfl rfl ?_
          refine mm_getI (x := J 69 8) rfl rfl rfl (by decide) rfl (by simp [ed_fr, mm_set]) ?_
          refine mm_bipush (v := nI 100) rfl (by decide) ?_
          refine mm_icmp_ne (tgt := 126) rfl (by decide) (fun h75 => ?_) (fun h75 => ?_)
          · refine mm_aload_n rfl rfl ?_
            refine mm_aload_n rfl rfl ?_
            refine mm_getI (x := nI q) rfl rfl rfl (by decide) rfl (by simp [ed_fr, mm_set, hp]) ?_
            refine mm_iconst (v := nI 0) rfl (by decide) ?_
            refine mm_isV2 (M2 := qR_step) wd_645 qR_step_k (by decide) (sR_step (J := (ed_fr (mm_set J 69 4 (nI t)) c t)) hG (hT.ri (J1 := (ed_fr (mm_set J 69 4 (nI t)) c t)) (s := t) (fun k hk => by simp [ed_fr, mm_set, hk]) rfl rfl (by simp [ed_fr, mm_set]) (by omega)) (by omega) (by omega)) rfl (by decide) (Nat.le_of_ble_eq_true rfl) (by decide) (by decide) rfl (by decide) ?_
            refine mm_aload_n rfl rfl ?_
            refine mm_dup rfl rfl ?_
            refine mm_getI (x := nI q) rfl rfl rfl (by decide) rfl ((ed_RS_f (by decide)).trans (by simp [ed_fr, mm_set, hp])) ?_
            refine mm_aload_n rfl rfl ?_
            refine mm_getI (x := nI t) rfl rfl rfl (by decide) rfl ((ed_RS_f (by decide)).trans (by simp [ed_fr, mm_set, ht])) ?_
            refine mm_iaddN rfl ?_
            refine mm_putI rfl rfl rfl (by decide) rfl (Or.inl rfl) rfl rfl ?_
            refine mm_aload_n rfl rfl ?_
            refine mm_bipush (v := nI 100) rfl (by decide) ?_
            refine mm_isV1 (M2 := qR_done) wd_649 qR_done_k (by decide) sR_done rfl (by decide) (Nat.le_of_ble_eq_true rfl) (by decide) (by decide) rfl (by decide) ?_
            refine mm_ireturn rfl rfl rfl (by decide) (by decide) ?_
            exact ⟨rfl, rfl, rfl, rfl⟩
          · refine mm_aload_n rfl rfl ?_
            refine mm_getR rfl rfl rfl (by decide) rfl (mm_gi hG 69 22 81 (by decide)) ?_
            refine mm_aload_n rfl rfl ?_
            refine mm_getI (x := nI m) rfl rfl rfl (by decide) rfl (by simp [ed_fr, mm_set, hT.2.2.2.2.2.1]) ?_
            refine mm_bipush (v := nI 20) rfl (by decide) ?_
            refine mm_iremN rfl (by omega) (by omega) (by omega) ?_
            refine mm_rdN (x := nI u) rfl (by decide) rfl (by decide) ed_mod (by decide) rfl (by simp [ed_fr, mm_set]; exact hu h75) ?_
            refine mm_bipush (v := nI 7) rfl (by decide) ?_
            refine mm_icmp_gtN (tgt := 126) rfl (by decide) (by omega) (by omega) (fun h92 => ?_) (fun h92 => ?_)
            · refine mm_aload_n rfl rfl ?_
              refine mm_aload_n rfl rfl ?_
              refine mm_getI (x := nI q) rfl rfl rfl (by decide) rfl (by simp [ed_fr, mm_set, hp]) ?_
              refine mm_iconst (v := nI 0) rfl (by decide) ?_
              refine mm_isV2 (M2 := qR_step) wd_645 qR_step_k (by decide) (sR_step (J := (ed_fr (mm_set J 69 4 (nI t)) c t)) hG (hT.ri (J1 := (ed_fr (mm_set J 69 4 (nI t)) c t)) (s := t) (fun k hk => by simp [ed_fr, mm_set, hk]) rfl rfl (by simp [ed_fr, mm_set]) (by omega)) (by omega) (by omega)) rfl (by decide) (Nat.le_of_ble_eq_true rfl) (by decide) (by decide) rfl (by decide) ?_
              refine mm_aload_n rfl rfl ?_
              refine mm_dup rfl rfl ?_
              refine mm_getI (x := nI q) rfl rfl rfl (by decide) rfl ((ed_RS_f (by decide)).trans (by simp [ed_fr, mm_set, hp])) ?_
              refine mm_aload_n rfl rfl ?_
              refine mm_getI (x := nI t) rfl rfl rfl (by decide) rfl ((ed_RS_f (by decide)).trans (by simp [ed_fr, mm_set, ht])) ?_
              refine mm_iaddN rfl ?_
              refine mm_putI rfl rfl rfl (by decide) rfl (Or.inl rfl) rfl rfl ?_
              refine mm_aload_n rfl rfl ?_
              refine mm_bipush (v := nI 100) rfl (by decide) ?_
              refine mm_isV1 (M2 := qR_done) wd_649 qR_done_k (by decide) sR_done rfl (by decide) (Nat.le_of_ble_eq_true rfl) (by decide) (by decide) rfl (by decide) ?_
              refine mm_ireturn rfl rfl rfl (by decide) (by decide) ?_
              exact ⟨rfl, rfl, rfl, rfl⟩
            · exact absurd ⟨h75, by omega⟩ hj
        · exact absurd h32 (by omega)
      · exact hch.elim (fun e => absurd e (by rw [ed_beq h4]; decide)) (fun e => e.elim (fun e => absurd e h10) (fun e => absurd e h16))
set_option maxRecDepth 100000 in
set_option maxHeartbeats 4000000 in
theorem sR_insert2 {E : mm_E} {G : mm_G} {J : mm_J} (hG : mm_GI G) {n m : Nat} (hT : ed_RB J n m) {q t : Nat} {c : Int32} (hch : ed_ch c) (ht : J 69 7 = nI t) (ht9 : t ≤ 9) (hp : J 69 5 = nI q) (hq : q ≤ n) {u : Nat} (hu : J 69 8 = nI 100 → J 81 (m % 20) = nI u) (hu2 : u ≤ 100) (h : n + t ≤ 100) (hj : J 69 8 = nI 100 ∧ u ≤ 7) : mm_Ret E qR_insert [.ref 69, .int c] 86 J G (some (.int (nI 0))) 86 (mm_set (mm_set (mm_set (ed_Re (mm_set (ed_fr (mm_set J 69 4 (nI t)) c t) 81 (m % 20) (nI (u + t))) n q 0 t) 69 5 (nI (q + t))) 69 8 (nI 100)) 69 7 (nI 1)) G := by
  refine mm_Met.of qR_insert_ok (by decide) (mm_cats rfl) (Nat.le_of_ble_eq_true rfl) ?_
  have hn2 := hT.2.1
  have hm2 := hT.2.2.2.2.2.2
  refine mm_iload_n rfl rfl ?_
  refine mm_isS1 (M2 := qR_letter) wd_635 qR_letter_k (by decide) sR_letter (Nat.le_of_ble_eq_true rfl) (by decide) (by decide) rfl (by decide) ?_
  refine mm_if_neN (tgt := 21) rfl (by decide) (ed_b31 _) (fun h4 => ?_) (fun h4 => ?_)
  · refine mm_aload_n rfl rfl ?_
    refine mm_getI (x := nI n) rfl rfl rfl (by decide) rfl hT.1 ?_
    refine mm_aload_n rfl rfl ?_
    refine mm_getI (x := nI t) rfl rfl rfl (by decide) rfl ht ?_
    refine mm_iaddN rfl ?_
    refine mm_bipush (v := nI 100) rfl (by decide) ?_
    refine mm_icmp_leN (tgt := 38) rfl (by decide) (by omega) (by omega) (fun h32 => ?_) (fun h32 => ?_)
    · refine mm_aload_n rfl rfl ?_
      refine mm_aload_n rfl rfl ?_
      refine mm_getI (x := nI t) rfl rfl rfl (by decide) rfl ht ?_
      refine mm_putI rfl rfl rfl (by decide) rfl (Or.inl rfl) rfl rfl ?_
      refine mm_iconst (v := nI 0) rfl (by decide) ?_
      refine mm_istore_n rfl (by decide) ?_
      refine mm_J_eq (ed_fr_0 _ c).symm (lR_insert (J := mm_set J 69 4 (nI t)) hG (by simp [mm_set, ht]) ht9 ?_ t 0 rfl (by omega))
      refine mm_aload_n rfl rfl ?_
      refine mm_getI (x := J 69 8) rfl rfl rfl (by decide) rfl (by simp [ed_fr, mm_set]) ?_
      refine mm_bipush (v := nI 100) rfl (by decide) ?_
      refine mm_icmp_ne (tgt := 126) rfl (by decide) (fun h75 => ?_) (fun h75 => ?_)
      · exact absurd hj.1 h75
      · refine mm_aload_n rfl rfl ?_
        refine mm_getR rfl rfl rfl (by decide) rfl (mm_gi hG 69 22 81 (by decide)) ?_
        refine mm_aload_n rfl rfl ?_
        refine mm_getI (x := nI m) rfl rfl rfl (by decide) rfl (by simp [ed_fr, mm_set, hT.2.2.2.2.2.1]) ?_
        refine mm_bipush (v := nI 20) rfl (by decide) ?_
        refine mm_iremN rfl (by omega) (by omega) (by omega) ?_
        refine mm_rdN (x := nI u) rfl (by decide) rfl (by decide) ed_mod (by decide) rfl (by simp [ed_fr, mm_set]; exact hu h75) ?_
        refine mm_bipush (v := nI 7) rfl (by decide) ?_
        refine mm_icmp_gtN (tgt := 126) rfl (by decide) (by omega) (by omega) (fun h92 => ?_) (fun h92 => ?_)
        · exact absurd h92 (by omega)
        · refine mm_aload_n rfl rfl ?_
          refine mm_getR rfl rfl rfl (by decide) rfl (mm_gi hG 69 22 81 (by decide)) ?_
          refine mm_aload_n rfl rfl ?_
          refine mm_getI (x := nI m) rfl rfl rfl (by decide) rfl (by simp [ed_fr, mm_set, hT.2.2.2.2.2.1]) ?_
          refine mm_bipush (v := nI 20) rfl (by decide) ?_
          refine mm_iremN rfl (by omega) (by omega) (by omega) ?_
          refine mm_dup2 rfl rfl rfl ?_
          refine mm_rdN (x := nI u) rfl (by decide) rfl (by decide) ed_mod (by decide) rfl (by simp [ed_fr, mm_set]; exact hu h75) ?_
          refine mm_aload_n rfl rfl ?_
          refine mm_getI (x := nI t) rfl rfl rfl (by decide) rfl (by simp [ed_fr, mm_set, ht]) ?_
          refine mm_iaddN rfl ?_
          refine mm_wrN rfl (by decide) rfl (by decide) ed_mod (by decide) rfl ?_
          refine mm_aload_n rfl rfl ?_
          refine mm_aload_n rfl rfl ?_
          refine mm_getI (x := nI q) rfl rfl rfl (by decide) rfl (by simp [ed_fr, mm_set, hp]) ?_
          refine mm_iconst (v := nI 0) rfl (by decide) ?_
          refine mm_isV2 (M2 := qR_edit) wd_638 qR_edit_k (by decide) (sR_edit (J := mm_set (ed_fr (mm_set J 69 4 (nI t)) c t) 81 (m % 20) (nI (u + t))) (n := n) (s := t) hG (by simp [ed_fr, mm_set, hT.1]) hn2 (by simp [ed_fr, mm_set]) (by omega) (by omega) (by omega) (by simpa [ed_fr, mm_set] using hT.2.2.1) (fun i hi => by simpa [ed_fr, mm_set] using hT.2.2.2.1 i hi) (fun i hi => by simpa [ed_fr, mm_set] using hT.2.2.2.2.1 i hi)) rfl (by decide) (Nat.le_of_ble_eq_true rfl) (by decide) (by decide) rfl (by decide) ?_
          refine mm_goto (tgt := 135) rfl (by decide) ?_
          refine mm_aload_n rfl rfl ?_
          refine mm_dup rfl rfl ?_
          refine mm_getI (x := nI q) rfl rfl rfl (by decide) rfl ((ed_Re_f (by decide)).trans (by simp [ed_fr, mm_set, hp])) ?_
          refine mm_aload_n rfl rfl ?_
          refine mm_getI (x := nI t) rfl rfl rfl (by decide) rfl ((ed_Re_f (by decide)).trans (by simp [ed_fr, mm_set, ht])) ?_
          refine mm_iaddN rfl ?_
          refine mm_putI rfl rfl rfl (by decide) rfl (Or.inl rfl) rfl rfl ?_
          refine mm_aload_n rfl rfl ?_
          refine mm_bipush (v := nI 100) rfl (by decide) ?_
          refine mm_isV1 (M2 := qR_done) wd_649 qR_done_k (by decide) sR_done rfl (by decide) (Nat.le_of_ble_eq_true rfl) (by decide) (by decide) rfl (by decide) ?_
          refine mm_ireturn rfl rfl rfl (by decide) (by decide) ?_
          exact ⟨rfl, rfl, rfl, rfl⟩
    · exact absurd h32 (by omega)
  · refine mm_iload_n rfl rfl ?_
    refine mm_bipush (v := nI 32) rfl (by decide) ?_
    refine mm_icmp_eq (tgt := 21) rfl (by decide) (fun h10 => ?_) (fun h10 => ?_)
    · refine mm_aload_n rfl rfl ?_
      refine mm_getI (x := nI n) rfl rfl rfl (by decide) rfl hT.1 ?_
      refine mm_aload_n rfl rfl ?_
      refine mm_getI (x := nI t) rfl rfl rfl (by decide) rfl ht ?_
      refine mm_iaddN rfl ?_
      refine mm_bipush (v := nI 100) rfl (by decide) ?_
      refine mm_icmp_leN (tgt := 38) rfl (by decide) (by omega) (by omega) (fun h32 => ?_) (fun h32 => ?_)
      · refine mm_aload_n rfl rfl ?_
        refine mm_aload_n rfl rfl ?_
        refine mm_getI (x := nI t) rfl rfl rfl (by decide) rfl ht ?_
        refine mm_putI rfl rfl rfl (by decide) rfl (Or.inl rfl) rfl rfl ?_
        refine mm_iconst (v := nI 0) rfl (by decide) ?_
        refine mm_istore_n rfl (by decide) ?_
        refine mm_J_eq (ed_fr_0 _ c).symm (lR_insert (J := mm_set J 69 4 (nI t)) hG (by simp [mm_set, ht]) ht9 ?_ t 0 rfl (by omega))
        refine mm_aload_n rfl rfl ?_
        refine mm_getI (x := J 69 8) rfl rfl rfl (by decide) rfl (by simp [ed_fr, mm_set]) ?_
        refine mm_bipush (v := nI 100) rfl (by decide) ?_
        refine mm_icmp_ne (tgt := 126) rfl (by decide) (fun h75 => ?_) (fun h75 => ?_)
        · exact absurd hj.1 h75
        · refine mm_aload_n rfl rfl ?_
          refine mm_getR rfl rfl rfl (by decide) rfl (mm_gi hG 69 22 81 (by decide)) ?_
          refine mm_aload_n rfl rfl ?_
          refine mm_getI (x := nI m) rfl rfl rfl (by decide) rfl (by simp [ed_fr, mm_set, hT.2.2.2.2.2.1]) ?_
          refine mm_bipush (v := nI 20) rfl (by decide) ?_
          refine mm_iremN rfl (by omega) (by omega) (by omega) ?_
          refine mm_rdN (x := nI u) rfl (by decide) rfl (by decide) ed_mod (by decide) rfl (by simp [ed_fr, mm_set]; exact hu h75) ?_
          refine mm_bipush (v := nI 7) rfl (by decide) ?_
          refine mm_icmp_gtN (tgt := 126) rfl (by decide) (by omega) (by omega) (fun h92 => ?_) (fun h92 => ?_)
          · exact absurd h92 (by omega)
          · refine mm_aload_n rfl rfl ?_
            refine mm_getR rfl rfl rfl (by decide) rfl (mm_gi hG 69 22 81 (by decide)) ?_
            refine mm_aload_n rfl rfl ?_
            refine mm_getI (x := nI m) rfl rfl rfl (by decide) rfl (by simp [ed_fr, mm_set, hT.2.2.2.2.2.1]) ?_
            refine mm_bipush (v := nI 20) rfl (by decide) ?_
            refine mm_iremN rfl (by omega) (by omega) (by omega) ?_
            refine mm_dup2 rfl rfl rfl ?_
            refine mm_rdN (x := nI u) rfl (by decide) rfl (by decide) ed_mod (by decide) rfl (by simp [ed_fr, mm_set]; exact hu h75) ?_
            refine mm_aload_n rfl rfl ?_
            refine mm_getI (x := nI t) rfl rfl rfl (by decide) rfl (by simp [ed_fr, mm_set, ht]) ?_
            refine mm_iaddN rfl ?_
            refine mm_wrN rfl (by decide) rfl (by decide) ed_mod (by decide) rfl ?_
            refine mm_aload_n rfl rfl ?_
            refine mm_aload_n rfl rfl ?_
            refine mm_getI (x := nI q) rfl rfl rfl (by decide) rfl (by simp [ed_fr, mm_set, hp]) ?_
            refine mm_iconst (v := nI 0) rfl (by decide) ?_
            refine mm_isV2 (M2 := qR_edit) wd_638 qR_edit_k (by decide) (sR_edit (J := mm_set (ed_fr (mm_set J 69 4 (nI t)) c t) 81 (m % 20) (nI (u + t))) (n := n) (s := t) hG (by simp [ed_fr, mm_set, hT.1]) hn2 (by simp [ed_fr, mm_set]) (by omega) (by omega) (by omega) (by simpa [ed_fr, mm_set] using hT.2.2.1) (fun i hi => by simpa [ed_fr, mm_set] using hT.2.2.2.1 i hi) (fun i hi => by simpa [ed_fr, mm_set] using hT.2.2.2.2.1 i hi)) rfl (by decide) (Nat.le_of_ble_eq_true rfl) (by decide) (by decide) rfl (by decide) ?_
            refine mm_goto (tgt := 135) rfl (by decide) ?_
            refine mm_aload_n rfl rfl ?_
            refine mm_dup rfl rfl ?_
            refine mm_getI (x := nI q) rfl rfl rfl (by decide) rfl ((ed_Re_f (by decide)).trans (by simp [ed_fr, mm_set, hp])) ?_
            refine mm_aload_n rfl rfl ?_
            refine mm_getI (x := nI t) rfl rfl rfl (by decide) rfl ((ed_Re_f (by decide)).trans (by simp [ed_fr, mm_set, ht])) ?_
            refine mm_iaddN rfl ?_
            refine mm_putI rfl rfl rfl (by decide) rfl (Or.inl rfl) rfl rfl ?_
            refine mm_aload_n rfl rfl ?_
            refine mm_bipush (v := nI 100) rfl (by decide) ?_
            refine mm_isV1 (M2 := qR_done) wd_649 qR_done_k (by decide) sR_done rfl (by decide) (Nat.le_of_ble_eq_true rfl) (by decide) (by decide) rfl (by decide) ?_
            refine mm_ireturn rfl rfl rfl (by decide) (by decide) ?_
            exact ⟨rfl, rfl, rfl, rfl⟩
      · exact absurd h32 (by omega)
    · refine mm_iload_n rfl rfl ?_
      refine mm_bipush (v := nI 10) rfl (by decide) ?_
      refine mm_icmp_eq (tgt := 21) rfl (by decide) (fun h16 => ?_) (fun h16 => ?_)
      · refine mm_aload_n rfl rfl ?_
        refine mm_getI (x := nI n) rfl rfl rfl (by decide) rfl hT.1 ?_
        refine mm_aload_n rfl rfl ?_
        refine mm_getI (x := nI t) rfl rfl rfl (by decide) rfl ht ?_
        refine mm_iaddN rfl ?_
        refine mm_bipush (v := nI 100) rfl (by decide) ?_
        refine mm_icmp_leN (tgt := 38) rfl (by decide) (by omega) (by omega) (fun h32 => ?_) (fun h32 => ?_)
        · refine mm_aload_n rfl rfl ?_
          refine mm_aload_n rfl rfl ?_
          refine mm_getI (x := nI t) rfl rfl rfl (by decide) rfl ht ?_
          refine mm_putI rfl rfl rfl (by decide) rfl (Or.inl rfl) rfl rfl ?_
          refine mm_iconst (v := nI 0) rfl (by decide) ?_
          refine mm_istore_n rfl (by decide) ?_
          refine mm_J_eq (ed_fr_0 _ c).symm (lR_insert (J := mm_set J 69 4 (nI t)) hG (by simp [mm_set, ht]) ht9 ?_ t 0 rfl (by omega))
          refine mm_aload_n rfl rfl ?_
          refine mm_getI (x := J 69 8) rfl rfl rfl (by decide) rfl (by simp [ed_fr, mm_set]) ?_
          refine mm_bipush (v := nI 100) rfl (by decide) ?_
          refine mm_icmp_ne (tgt := 126) rfl (by decide) (fun h75 => ?_) (fun h75 => ?_)
          · exact absurd hj.1 h75
          · refine mm_aload_n rfl rfl ?_
            refine mm_getR rfl rfl rfl (by decide) rfl (mm_gi hG 69 22 81 (by decide)) ?_
            refine mm_aload_n rfl rfl ?_
            refine mm_getI (x := nI m) rfl rfl rfl (by decide) rfl (by simp [ed_fr, mm_set, hT.2.2.2.2.2.1]) ?_
            refine mm_bipush (v := nI 20) rfl (by decide) ?_
            refine mm_iremN rfl (by omega) (by omega) (by omega) ?_
            refine mm_rdN (x := nI u) rfl (by decide) rfl (by decide) ed_mod (by decide) rfl (by simp [ed_fr, mm_set]; exact hu h75) ?_
            refine mm_bipush (v := nI 7) rfl (by decide) ?_
            refine mm_icmp_gtN (tgt := 126) rfl (by decide) (by omega) (by omega) (fun h92 => ?_) (fun h92 => ?_)
            · exact absurd h92 (by omega)
            · refine mm_aload_n rfl rfl ?_
              refine mm_getR rfl rfl rfl (by decide) rfl (mm_gi hG 69 22 81 (by decide)) ?_
              refine mm_aload_n rfl rfl ?_
              refine mm_getI (x := nI m) rfl rfl rfl (by decide) rfl (by simp [ed_fr, mm_set, hT.2.2.2.2.2.1]) ?_
              refine mm_bipush (v := nI 20) rfl (by decide) ?_
              refine mm_iremN rfl (by omega) (by omega) (by omega) ?_
              refine mm_dup2 rfl rfl rfl ?_
              refine mm_rdN (x := nI u) rfl (by decide) rfl (by decide) ed_mod (by decide) rfl (by simp [ed_fr, mm_set]; exact hu h75) ?_
              refine mm_aload_n rfl rfl ?_
              refine mm_getI (x := nI t) rfl rfl rfl (by decide) rfl (by simp [ed_fr, mm_set, ht]) ?_
              refine mm_iaddN rfl ?_
              refine mm_wrN rfl (by decide) rfl (by decide) ed_mod (by decide) rfl ?_
              refine mm_aload_n rfl rfl ?_
              refine mm_aload_n rfl rfl ?_
              refine mm_getI (x := nI q) rfl rfl rfl (by decide) rfl (by simp [ed_fr, mm_set, hp]) ?_
              refine mm_iconst (v := nI 0) rfl (by decide) ?_
              refine mm_isV2 (M2 := qR_edit) wd_638 qR_edit_k (by decide) (sR_edit (J := mm_set (ed_fr (mm_set J 69 4 (nI t)) c t) 81 (m % 20) (nI (u + t))) (n := n) (s := t) hG (by simp [ed_fr, mm_set, hT.1]) hn2 (by simp [ed_fr, mm_set]) (by omega) (by omega) (by omega) (by simpa [ed_fr, mm_set] using hT.2.2.1) (fun i hi => by simpa [ed_fr, mm_set] using hT.2.2.2.1 i hi) (fun i hi => by simpa [ed_fr, mm_set] using hT.2.2.2.2.1 i hi)) rfl (by decide) (Nat.le_of_ble_eq_true rfl) (by decide) (by decide) rfl (by decide) ?_
              refine mm_goto (tgt := 135) rfl (by decide) ?_
              refine mm_aload_n rfl rfl ?_
              refine mm_dup rfl rfl ?_
              refine mm_getI (x := nI q) rfl rfl rfl (by decide) rfl ((ed_Re_f (by decide)).trans (by simp [ed_fr, mm_set, hp])) ?_
              refine mm_aload_n rfl rfl ?_
              refine mm_getI (x := nI t) rfl rfl rfl (by decide) rfl ((ed_Re_f (by decide)).trans (by simp [ed_fr, mm_set, ht])) ?_
              refine mm_iaddN rfl ?_
              refine mm_putI rfl rfl rfl (by decide) rfl (Or.inl rfl) rfl rfl ?_
              refine mm_aload_n rfl rfl ?_
              refine mm_bipush (v := nI 100) rfl (by decide) ?_
              refine mm_isV1 (M2 := qR_done) wd_649 qR_done_k (by decide) sR_done rfl (by decide) (Nat.le_of_ble_eq_true rfl) (by decide) (by decide) rfl (by decide) ?_
              refine mm_ireturn rfl rfl rfl (by decide) (by decide) ?_
              exact ⟨rfl, rfl, rfl, rfl⟩
        · exact absurd h32 (by omega)
      · exact hch.elim (fun e => absurd e (by rw [ed_beq h4]; decide)) (fun e => e.elim (fun e => absurd e h10) (fun e => absurd e h16))
set_option maxRecDepth 100000 in
set_option maxHeartbeats 4000000 in
theorem sR_erase0 {E : mm_E} {G : mm_G} {J : mm_J} {a : Int32} : mm_Ret E qR_erase [.ref 69, .int a, .int (nI 0)] 86 J G (some (.int (-2))) 86 J G := by
  refine mm_Met.of qR_erase_ok (by decide) (mm_cats rfl) (Nat.le_of_ble_eq_true rfl) ?_
  refine mm_iload_n rfl rfl ?_
  refine mm_if_gtN (tgt := 7) rfl (by decide) (by decide) (fun h1 => ?_) (fun h1 => ?_)
  · exact absurd h1 (by decide)
  · refine mm_bipush (v := -2) rfl (by decide) ?_
    refine mm_ireturn rfl rfl rfl (by decide) (by decide) ?_
    exact ⟨rfl, rfl, rfl, rfl⟩
set_option maxRecDepth 100000 in
set_option maxHeartbeats 4000000 in
theorem sR_erase1 {E : mm_E} {G : mm_G} {J : mm_J} (hG : mm_GI G) {n m : Nat} (hT : ed_RB J n m) {a d : Nat} (hd : 0 < d) (had : a + d ≤ n) : mm_Ret E qR_erase [.ref 69, .int (nI a), .int (nI d)] 86 J G (some (.int (nI 0))) 86 (mm_set (ed_RS (mm_set J 69 4 (nI 0)) n m a d 0) 69 5 (nI a)) G := by
  refine mm_Met.of qR_erase_ok (by decide) (mm_cats rfl) (Nat.le_of_ble_eq_true rfl) ?_
  have hn2 := hT.2.1
  refine mm_iload_n rfl rfl ?_
  refine mm_if_gtN (tgt := 7) rfl (by decide) (by omega) (fun h1 => ?_) (fun h1 => ?_)
  · refine mm_aload_n rfl rfl ?_
    refine mm_iconst (v := nI 0) rfl (by decide) ?_
    refine mm_putI rfl rfl rfl (by decide) rfl (Or.inl rfl) rfl rfl ?_
    refine mm_aload_n rfl rfl ?_
    refine mm_iload_n rfl rfl ?_
    refine mm_iload_n rfl rfl ?_
    refine mm_isV2 (M2 := qR_step) wd_645 qR_step_k (by decide) (sR_step (s := 0) hG (hT.ri (fun k hk => by simp [mm_set, hk]) rfl rfl (by simp [mm_set]) (by omega)) had (by omega)) rfl (by decide) (Nat.le_of_ble_eq_true rfl) (by decide) (by decide) rfl (by decide) ?_
    refine mm_aload_n rfl rfl ?_
    refine mm_iload_n rfl rfl ?_
    refine mm_putI rfl rfl rfl (by decide) rfl (Or.inl rfl) rfl rfl ?_
    refine mm_iconst (v := nI 0) rfl (by decide) ?_
    refine mm_ireturn rfl rfl rfl (by decide) (by decide) ?_
    exact ⟨rfl, rfl, rfl, rfl⟩
  · exact absurd h1 (by omega)
set_option maxRecDepth 100000 in
set_option maxHeartbeats 4000000 in
theorem sR_swap0 {E : mm_E} {G : mm_G} {J : mm_J} (hG : mm_GI G) {n m : Nat} (hT : ed_RB J n m) {q : Nat} (hp : J 69 5 = nI q) (hq : q ≤ n) (h : q = 0 ∨ q = n) : mm_Ret E qR_swap [.ref 69] 86 J G (some (.int (-2))) 86 J G := by
  refine mm_Met.of qR_swap_ok (by decide) (mm_cats rfl) (Nat.le_of_ble_eq_true rfl) ?_
  have hn2 := hT.2.1
  refine mm_aload_n rfl rfl ?_
  refine mm_getI (x := nI q) rfl rfl rfl (by decide) rfl hp ?_
  refine mm_if_eqN (tgt := 18) rfl (by decide) (by omega) (fun h4 => ?_) (fun h4 => ?_)
  · refine mm_bipush (v := -2) rfl (by decide) ?_
    refine mm_ireturn rfl rfl rfl (by decide) (by decide) ?_
    exact ⟨rfl, rfl, rfl, rfl⟩
  · refine mm_aload_n rfl rfl ?_
    refine mm_getI (x := nI q) rfl rfl rfl (by decide) rfl hp ?_
    refine mm_aload_n rfl rfl ?_
    refine mm_getI (x := nI n) rfl rfl rfl (by decide) rfl hT.1 ?_
    refine mm_icmp_neN (tgt := 21) rfl (by decide) (by omega) (by omega) (fun h15 => ?_) (fun h15 => ?_)
    · exact absurd h15 (by omega)
    · refine mm_bipush (v := -2) rfl (by decide) ?_
      refine mm_ireturn rfl rfl rfl (by decide) (by decide) ?_
      exact ⟨rfl, rfl, rfl, rfl⟩
set_option maxRecDepth 100000 in
set_option maxHeartbeats 4000000 in
theorem sR_swap1 {E : mm_E} {G : mm_G} {J : mm_J} (hG : mm_GI G) {n m : Nat} (hT : ed_RB J n m) {q : Nat} (hp : J 69 5 = nI q) (hq : q ≤ n) (h1 : 0 < q) (h2 : q < n) : mm_Ret E qR_swap [.ref 69] 86 J G (some (.int (nI 0))) 86 (mm_set (ed_RS (mm_set (mm_set (mm_set J 69 4 (nI 2)) 72 0 (J 70 q)) 72 1 (J 70 (q - 1))) n m (q - 1) 2 2) 69 5 (nI (q - 1 + 2))) G := by
  refine mm_Met.of qR_swap_ok (by decide) (mm_cats rfl) (Nat.le_of_ble_eq_true rfl) ?_
  have hn2 := hT.2.1
  refine mm_aload_n rfl rfl ?_
  refine mm_getI (x := nI q) rfl rfl rfl (by decide) rfl hp ?_
  refine mm_if_eqN (tgt := 18) rfl (by decide) (by omega) (fun h4 => ?_) (fun h4 => ?_)
  · exact absurd h4 (by omega)
  · refine mm_aload_n rfl rfl ?_
    refine mm_getI (x := nI q) rfl rfl rfl (by decide) rfl hp ?_
    refine mm_aload_n rfl rfl ?_
    refine mm_getI (x := nI n) rfl rfl rfl (by decide) rfl hT.1 ?_
    refine mm_icmp_neN (tgt := 21) rfl (by decide) (by omega) (by omega) (fun h15 => ?_) (fun h15 => ?_)
    · refine mm_aload_n rfl rfl ?_
      refine mm_iconst (v := nI 2) rfl (by decide) ?_
      refine mm_putI rfl rfl rfl (by decide) rfl (Or.inl rfl) rfl rfl ?_
      refine mm_aload_n rfl rfl ?_
      refine mm_getR rfl rfl rfl (by decide) rfl (mm_gi hG 69 2 72 (by decide)) ?_
      refine mm_iconst (v := nI 0) rfl (by decide) ?_
      refine mm_aload_n rfl rfl ?_
      refine mm_getR rfl rfl rfl (by decide) rfl (mm_gi hG 69 0 70 (by decide)) ?_
      refine mm_aload_n rfl rfl ?_
      refine mm_getI (x := nI q) rfl rfl rfl (by decide) rfl (by simp [mm_set, mm_cp, hp]) ?_
      refine mm_rdN (x := J 70 q) rfl (by decide) rfl (by decide) (by omega) (by decide) rfl (by simp [mm_set]) ?_
      refine mm_wrN rfl (by decide) rfl (by decide) (by decide) (by decide) rfl ?_
      refine mm_aload_n rfl rfl ?_
      refine mm_getR rfl rfl rfl (by decide) rfl (mm_gi hG 69 2 72 (by decide)) ?_
      refine mm_iconst (v := nI 1) rfl (by decide) ?_
      refine mm_aload_n rfl rfl ?_
      refine mm_getR rfl rfl rfl (by decide) rfl (mm_gi hG 69 0 70 (by decide)) ?_
      refine mm_aload_n rfl rfl ?_
      refine mm_getI (x := nI q) rfl rfl rfl (by decide) rfl (by simp [mm_set, mm_cp, hp]) ?_
      refine mm_iconst (v := nI 1) rfl (by decide) ?_
      refine mm_isubN rfl (by omega) ?_
      refine mm_rdN (x := J 70 (q - 1)) rfl (by decide) rfl (by decide) (by omega) (by decide) rfl (by simp [mm_set]) ?_
      refine mm_wrN rfl (by decide) rfl (by decide) (by decide) (by decide) rfl ?_
      refine mm_aload_n rfl rfl ?_
      refine mm_getI (x := nI q) rfl rfl rfl (by decide) rfl (by simp [mm_set, mm_cp, hp]) ?_
      refine mm_iconst (v := nI 1) rfl (by decide) ?_
      refine mm_isubN rfl (by omega) ?_
      refine mm_istore_n rfl (by decide) ?_
      refine mm_aload_n rfl rfl ?_
      refine mm_iload_n rfl rfl ?_
      refine mm_iconst (v := nI 2) rfl (by decide) ?_
      refine mm_isV2 (M2 := qR_step) wd_645 qR_step_k (by decide) (sR_step (s := 2) hG (hT.ri (fun k hk => by simp [mm_set, hk]) rfl rfl (by simp [mm_set]) (by omega)) (by omega) (by omega)) rfl (by decide) (Nat.le_of_ble_eq_true rfl) (by decide) (by decide) rfl (by decide) ?_
      refine mm_aload_n rfl rfl ?_
      refine mm_iload_n rfl rfl ?_
      refine mm_iconst (v := nI 2) rfl (by decide) ?_
      refine mm_iaddN rfl ?_
      refine mm_putI rfl rfl rfl (by decide) rfl (Or.inl rfl) rfl rfl ?_
      refine mm_iconst (v := nI 0) rfl (by decide) ?_
      refine mm_ireturn rfl rfl rfl (by decide) (by decide) ?_
      exact ⟨rfl, rfl, rfl, rfl⟩
    · exact absurd h15 (by omega)
set_option maxRecDepth 100000 in
set_option maxHeartbeats 4000000 in
theorem sR_exchange0 {E : mm_E} {G : mm_G} {J : mm_J} (hk : J 69 6 = -2) : mm_Ret E qR_exchange [.ref 69] 86 J G (some (.int (-2))) 86 J G := by
  refine mm_Met.of qR_exchange_ok (by decide) (mm_cats rfl) (Nat.le_of_ble_eq_true rfl) ?_
  refine mm_aload_n rfl rfl ?_
  refine mm_getI rfl rfl rfl (by decide) rfl hk ?_
  refine mm_if_ge (tgt := 10) rfl (by decide) (fun h4 => ?_) (fun h4 => ?_)
  · exact absurd h4 (by decide)
  · refine mm_bipush (v := -2) rfl (by decide) ?_
    refine mm_ireturn rfl rfl rfl (by decide) (by decide) ?_
    exact ⟨rfl, rfl, rfl, rfl⟩
set_option maxRecDepth 100000 in
set_option maxHeartbeats 4000000 in
theorem sR_exchange1 {E : mm_E} {G : mm_G} {J : mm_J} {k : Nat} (hk : J 69 6 = nI k) (hk2 : k ≤ 100) : mm_Ret E qR_exchange [.ref 69] 86 J G (some (.int (nI 0))) 86 (mm_set (mm_set J 69 6 (J 69 5)) 69 5 (nI k)) G := by
  refine mm_Met.of qR_exchange_ok (by decide) (mm_cats rfl) (Nat.le_of_ble_eq_true rfl) ?_
  refine mm_aload_n rfl rfl ?_
  refine mm_getI (x := nI k) rfl rfl rfl (by decide) rfl hk ?_
  refine mm_if_geN (tgt := 10) rfl (by decide) (by omega) ?_
  refine mm_aload_n rfl rfl ?_
  refine mm_getI (x := nI k) rfl rfl rfl (by decide) rfl hk ?_
  refine mm_istore_n rfl (by decide) ?_
  refine mm_aload_n rfl rfl ?_
  refine mm_aload_n rfl rfl ?_
  refine mm_getI rfl rfl rfl (by decide) rfl rfl ?_
  refine mm_putI rfl rfl rfl (by decide) rfl (Or.inl rfl) rfl rfl ?_
  refine mm_aload_n rfl rfl ?_
  refine mm_iload_n rfl rfl ?_
  refine mm_putI rfl rfl rfl (by decide) rfl (Or.inl rfl) rfl rfl ?_
  refine mm_iconst (v := nI 0) rfl (by decide) ?_
  refine mm_ireturn rfl rfl rfl (by decide) (by decide) ?_
  exact ⟨rfl, rfl, rfl, rfl⟩
