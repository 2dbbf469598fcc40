theorem mm_cp_s (J : mm_J) {a b : Nat} (sp dp i : Nat) (hab : ¬ a = b) : mm_set (mm_cp J a b sp dp i) b (dp + i) (J a (sp + i)) = mm_cp J a b sp dp (i + 1) := by
  funext x y
  unfold mm_set mm_cp va_cpy
  by_cases hx : x = b
  · subst hx
    by_cases hy : y = dp + i
    · subst hy
      simp
    · by_cases h : dp ≤ y ∧ y < dp + i
      · simp [hy, h, show y < dp + (i + 1) by omega]
      · simp [hy, h, show ¬ (dp ≤ y ∧ y < dp + (i + 1)) by omega]
  · simp [hx]
theorem mm_cp_0 (J : mm_J) (a b sp dp : Nat) : mm_cp J a b sp dp 0 = J := by
  funext x y
  unfold mm_cp va_cpy
  by_cases hx : x = b
  · subst hx
    simp [show ¬ (dp ≤ y ∧ y < dp) by omega]
  · simp [hx]
theorem mm_set_self {J : mm_J} {a k : Nat} {x : Int32} (h : J a k = x) : mm_set J a k x = J := by
  funext i j
  unfold mm_set
  split
  · rename_i q
    rw [q.1, q.2, h]
  · rfl
/-- the reference's text behind an edit, the places below i done -/
def ed_tx (J : mm_J) (p d s i : Nat) : mm_J := fun a b => if a = 70 ∧ p ≤ b ∧ b < i then (if b < p + s then J 72 (b - p) else J 71 (b - s + d)) else J a b
theorem ed_tx_s (J : mm_J) {p d s i : Nat} {x : Int32} (hi : p ≤ i) (hx : x = if i < p + s then J 72 (i - p) else J 71 (i - s + d)) : mm_set (ed_tx J p d s i) 70 i x = ed_tx J p d s (i + 1) := by
  subst hx
  funext a b
  unfold mm_set ed_tx
  by_cases ha : a = 70
  · subst ha
    by_cases hb : b = i
    · subst hb
      simp [hi]
    · by_cases h : p ≤ b ∧ b < i
      · simp [hb, h, show b < i + 1 by omega]
      · simp [hb, h, show ¬ (p ≤ b ∧ b < i + 1) by omega]
  · simp [ha]
theorem ed_tx_0 (J : mm_J) (p d s : Nat) : ed_tx J p d s p = J := by
  funext a b
  simp [ed_tx, show ¬ (p ≤ b ∧ b < p) by omega]
def ed_mk (J : mm_J) (p d s i : Nat) : mm_J := fun a b => if a = 73 ∧ b < i then ed_pm (J 73 b) (J 74 b) p d s else J a b
theorem ed_mk_s (J : mm_J) {p d s i : Nat} {x : Int32} (hx : x = ed_pm (J 73 i) (J 74 i) p d s) : mm_set (ed_mk J p d s i) 73 i x = ed_mk J p d s (i + 1) := by
  subst hx
  funext a b
  unfold mm_set ed_mk
  by_cases ha : a = 73
  · subst ha
    by_cases hb : b = i
    · subst hb
      simp
    · by_cases h : b < i
      · simp [hb, h, Nat.lt_succ_of_lt h]
      · simp [hb, h, show ¬ b < i + 1 by omega]
  · simp [ha]
theorem ed_mk_0 (J : mm_J) (p d s : Nat) : ed_mk J p d s 0 = J := by
  funext a b
  simp [ed_mk]
def ed_Re (J : mm_J) (n p d s : Nat) : mm_J := ed_mk (mm_set (mm_set (ed_tx (mm_cp J 70 71 0 0 n) p d s (n - d + s)) 69 3 (nI (n - d + s))) 69 6 (ed_pm (J 69 6) (nI 0) p d s)) p d s 4
def ed_Rs (J : mm_J) (n m p d s : Nat) : mm_J := mm_set (mm_set (mm_set (mm_set (mm_cp (mm_set J 69 23 (nI (m + 1))) 70 77 0 ((m + 1) % 20 * 100) n) 78 ((m + 1) % 20) (nI n)) 79 ((m + 1) % 20) (nI p)) 80 ((m + 1) % 20) (nI d)) 81 ((m + 1) % 20) (nI s)
theorem ed_pm_n {o : Int32} (fo : Int32) (p d s : Nat) (h : o = -2) : ed_pm o fo p d s = o := by rw [h]; rfl
theorem ed_vp_neg {o : Int32} (h : ed_vp o) (hz : o < 0) : o = -2 := by
  rcases h with h | ⟨m, hm, h⟩
  · exact h
  · rw [h] at hz
    exact absurd hz (nI_pos (by omega))
theorem ed_vp_pos {o : Int32} (h : ed_vp o) (hz : ¬ o < 0) : ∃ m, m ≤ 100 ∧ o = nI m := by
  rcases h with h | h
  · rw [h] at hz
    exact absurd (by decide) hz
  · exact h
set_option maxRecDepth 100000 in
set_option maxHeartbeats 4000000 in
theorem sR_moved1 {E : mm_E} {G : mm_G} {J : mm_J} {m fb p d s : Nat} (hm : m ≤ 100) (hfb : fb < 2) (hp : p + d ≤ 100) (hs : s ≤ 100) : mm_Ret E qR_moved [.int (nI m), .int (nI p), .int (nI d), .int (nI s), .int (nI fb)] 86 J G (some (.int (nI (ed_mv m fb p d s)))) 86 J G := by
  refine mm_Met.of qR_moved_ok (by decide) (mm_cats rfl) (Nat.le_of_ble_eq_true rfl) ?_
  refine mm_iload_n rfl rfl ?_
  refine mm_iload_n rfl rfl ?_
  refine mm_icmp_ltN (tgt := 14) rfl (by decide) (by omega) (by omega) (fun h2 => ?_) (fun h2 => ?_)
  · refine mm_iload_n rfl rfl ?_
    refine mm_ireturn rfl rfl rfl (by decide) (by decide) ?_
    exact ⟨by rw [show ed_mv m fb p d s = m from by unfold ed_mv; (repeat' split) <;> omega], rfl, rfl, rfl⟩
  · refine mm_iload_n rfl rfl ?_
    refine mm_iload_n rfl rfl ?_
    refine mm_icmp_neN (tgt := 16) rfl (by decide) (by omega) (by omega) (fun h7 => ?_) (fun h7 => ?_)
    · refine mm_iload_n rfl rfl ?_
      refine mm_iload_n rfl rfl ?_
      refine mm_icmp_neN (tgt := 34) rfl (by decide) (by omega) (by omega) (fun h18 => ?_) (fun h18 => ?_)
      · refine mm_iload_n rfl rfl ?_
        refine mm_iload_n rfl rfl ?_
        refine mm_iload_n rfl rfl ?_
        refine mm_iaddN rfl ?_
        refine mm_icmp_geN (tgt := 45) rfl (by decide) (by omega) (by omega) (fun h38 => ?_) (fun h38 => ?_)
        · refine mm_iload_n rfl rfl ?_
          refine mm_iload_n rfl rfl ?_
          refine mm_iaddN rfl ?_
          refine mm_iload_n rfl rfl ?_
          refine mm_isubN rfl (by omega) ?_
          refine mm_ireturn rfl rfl rfl (by decide) (by decide) ?_
          exact ⟨by rw [show ed_mv m fb p d s = m + s - d from by unfold ed_mv; (repeat' split) <;> omega], rfl, rfl, rfl⟩
        · refine mm_iload_n rfl rfl ?_
          refine mm_goto (tgt := 50) rfl (by decide) ?_
          refine mm_ireturn rfl rfl rfl (by decide) (by decide) ?_
          exact ⟨by rw [show ed_mv m fb p d s = p from by unfold ed_mv; (repeat' split) <;> omega], rfl, rfl, rfl⟩
      · refine mm_iload rfl rfl ?_
        refine mm_if_eqN (tgt := 32) rfl (by decide) (by omega) (fun h23 => ?_) (fun h23 => ?_)
        · refine mm_iload_n rfl rfl ?_
          refine mm_ireturn rfl rfl rfl (by decide) (by decide) ?_
          exact ⟨by rw [show ed_mv m fb p d s = p from by unfold ed_mv; (repeat' split) <;> omega], rfl, rfl, rfl⟩
        · refine mm_iload_n rfl rfl ?_
          refine mm_iload_n rfl rfl ?_
          refine mm_iaddN rfl ?_
          refine mm_goto (tgt := 33) rfl (by decide) ?_
          refine mm_ireturn rfl rfl rfl (by decide) (by decide) ?_
          exact ⟨by rw [show ed_mv m fb p d s = p + s from by unfold ed_mv; (repeat' split) <;> omega], rfl, rfl, rfl⟩
    · refine mm_iload_n rfl rfl ?_
      refine mm_if_leN (tgt := 16) rfl (by decide) (by omega) (fun h11 => ?_) (fun h11 => ?_)
      · refine mm_iload_n rfl rfl ?_
        refine mm_iload_n rfl rfl ?_
        refine mm_icmp_neN (tgt := 34) rfl (by decide) (by omega) (by omega) (fun h18 => ?_) (fun h18 => ?_)
        · refine mm_iload_n rfl rfl ?_
          refine mm_iload_n rfl rfl ?_
          refine mm_iload_n rfl rfl ?_
          refine mm_iaddN rfl ?_
          refine mm_icmp_geN (tgt := 45) rfl (by decide) (by omega) (by omega) (fun h38 => ?_) (fun h38 => ?_)
          · refine mm_iload_n rfl rfl ?_
            refine mm_iload_n rfl rfl ?_
            refine mm_iaddN rfl ?_
            refine mm_iload_n rfl rfl ?_
            refine mm_isubN rfl (by omega) ?_
            refine mm_ireturn rfl rfl rfl (by decide) (by decide) ?_
            exact ⟨by rw [show ed_mv m fb p d s = m + s - d from by unfold ed_mv; (repeat' split) <;> omega], rfl, rfl, rfl⟩
          · refine mm_iload_n rfl rfl ?_
            refine mm_goto (tgt := 50) rfl (by decide) ?_
            refine mm_ireturn rfl rfl rfl (by decide) (by decide) ?_
            exact ⟨by rw [show ed_mv m fb p d s = p from by unfold ed_mv; (repeat' split) <;> omega], rfl, rfl, rfl⟩
        · refine mm_iload rfl rfl ?_
          refine mm_if_eqN (tgt := 32) rfl (by decide) (by omega) (fun h23 => ?_) (fun h23 => ?_)
          · refine mm_iload_n rfl rfl ?_
            refine mm_ireturn rfl rfl rfl (by decide) (by decide) ?_
            exact ⟨by rw [show ed_mv m fb p d s = p from by unfold ed_mv; (repeat' split) <;> omega], rfl, rfl, rfl⟩
          · refine mm_iload_n rfl rfl ?_
            refine mm_iload_n rfl rfl ?_
            refine mm_iaddN rfl ?_
            refine mm_goto (tgt := 33) rfl (by decide) ?_
            refine mm_ireturn rfl rfl rfl (by decide) (by decide) ?_
            exact ⟨by rw [show ed_mv m fb p d s = p + s from by unfold ed_mv; (repeat' split) <;> omega], rfl, rfl, rfl⟩
      · refine mm_iload_n rfl rfl ?_
        refine mm_ireturn rfl rfl rfl (by decide) (by decide) ?_
        exact ⟨by rw [show ed_mv m fb p d s = m from by unfold ed_mv; (repeat' split) <;> omega], rfl, rfl, rfl⟩
theorem sR_moved {E : mm_E} {G : mm_G} {J : mm_J} {o fo : Int32} {p d s : Nat} (ho : ed_vp o) (hz : ¬ o < 0) (hf : ed_vb fo) (hp : p + d ≤ 100) (hs : s ≤ 100) : mm_Ret E qR_moved [.int o, .int (nI p), .int (nI d), .int (nI s), .int fo] 86 J G (some (.int (ed_pm o fo p d s))) 86 J G := by
  obtain ⟨m, hm, rfl⟩ := ed_vp_pos ho hz
  obtain ⟨fb, hfb, rfl⟩ := hf
  rw [show ed_pm (nI m) (nI fb) p d s = nI (ed_mv m fb p d s) from by
    unfold ed_pm
    rw [if_neg (ed_m2n (by omega)), nI_clamp (by omega), nI_clamp (by omega)]]
  exact sR_moved1 hm hfb hp hs
set_option maxRecDepth 100000 in
set_option maxHeartbeats 4000000 in
theorem sR_done {E : mm_E} {G : mm_G} {J : mm_J} {c : Int32} : mm_Ret E qR_done [.ref 69, .int c] 86 J G (some (.int (nI 0))) 86 (mm_set (mm_set J 69 8 c) 69 7 (nI 1)) G := by
  refine mm_Met.of qR_done_ok (by decide) (mm_cats rfl) (Nat.le_of_ble_eq_true rfl) ?_
  refine mm_aload_n rfl rfl ?_
  refine mm_iload_n rfl rfl ?_
  refine mm_putI rfl rfl rfl (by decide) rfl (Or.inl rfl) rfl rfl ?_
  refine mm_aload_n rfl rfl ?_
  refine mm_iconst (v := nI 1) rfl (by decide) ?_
  refine mm_putI rfl rfl rfl (by decide) rfl (Or.inl rfl) rfl rfl ?_
  refine mm_iconst (v := nI 0) rfl (by decide) ?_
  refine mm_ireturn rfl rfl rfl (by decide) (by decide) ?_
  exact ⟨rfl, rfl, rfl, rfl⟩
set_option maxRecDepth 100000 in
set_option maxHeartbeats 4000000 in
theorem lR_edA {E : mm_E} {G : mm_G} {J : mm_J} (hG : mm_GI G) {n p d s : Nat} {F : mm_F} (hn2 : n ≤ 100) (hpd : p + d ≤ n) (hs3 : n - d + s ≤ 100) (hn : J 69 3 = nI n) (kk : mm_Go E qR_edit 44 [some (.ref 69), some (.int (nI p)), some (.int (nI d)), some (.int (nI (n - d + s))), some (.int (nI n))] [] 86 (mm_cp J 70 71 0 0 n) G 0 0 F) : ∀ (k i : Nat), n - i = k → i ≤ n → mm_Go E qR_edit 15 [some (.ref 69), some (.int (nI p)), some (.int (nI d)), some (.int (nI (n - d + s))), some (.int (nI i))] [] 86 (mm_cp J 70 71 0 0 i) G 0 0 F
  | 0, i, hk, hi => by
    refine mm_iload rfl rfl ?_
    refine mm_aload_n rfl rfl ?_
    refine mm_getI (x := nI n) rfl rfl rfl (by decide) rfl (by simp [mm_cp, hn]) ?_
    refine mm_icmp_geN (tgt := 44) rfl (by decide) (by omega) (by omega) (fun h21 => ?_) (fun h21 => ?_)
    · obtain rfl : n = i := by omega
      exact kk
    · exact absurd h21 (by omega)
  | k + 1, i, hk, hi => by
    refine mm_iload rfl rfl ?_
    refine mm_aload_n rfl rfl ?_
    refine mm_getI (x := nI n) rfl rfl rfl (by decide) rfl (by simp [mm_cp, hn]) ?_
    refine mm_icmp_geN (tgt := 44) rfl (by decide) (by omega) (by omega) (fun h21 => ?_) (fun h21 => ?_)
    · exact absurd h21 (by omega)
    · refine mm_aload_n rfl rfl ?_
      refine mm_getR rfl rfl rfl (by decide) rfl (mm_gi hG 69 1 71 (by decide)) ?_
      refine mm_iload rfl rfl ?_
      refine mm_aload_n rfl rfl ?_
      refine mm_getR rfl rfl rfl (by decide) rfl (mm_gi hG 69 0 70 (by decide)) ?_
      refine mm_iload rfl rfl ?_
      refine mm_rdN (x := J 70 (0 + i)) rfl (by decide) rfl (by decide) (by omega) (by decide) rfl (by simp [mm_cp]) ?_
      refine mm_wrN rfl (by decide) rfl (by decide) (by omega) (by decide) rfl ?_
      refine mm_iincN rfl rfl (mm_inc1 _) (by decide) ?_
      refine mm_goto (tgt := 15) rfl (by decide) ?_
      have e := mm_cp_s J (a := 70) (b := 71) 0 0 i (by decide)
      rw [Nat.zero_add] at e
      rw [Nat.zero_add, e]
      exact lR_edA hG hn2 hpd hs3 hn kk k (i + 1) (by omega) (by omega)
set_option maxRecDepth 100000 in
set_option maxHeartbeats 4000000 in
theorem lR_edB {E : mm_E} {G : mm_G} {J : mm_J} (hG : mm_GI G) {n p d s : Nat} {F : mm_F} (hn2 : n ≤ 100) (hpd : p + d ≤ n) (hs3 : n - d + s ≤ 100) (hs : J 69 4 = nI s) (hs2 : s ≤ 100) (kk : mm_Go E qR_edit 103 [some (.ref 69), some (.int (nI p)), some (.int (nI d)), some (.int (nI (n - d + s))), some (.int (nI (n - d + s)))] [] 86 (ed_tx J p d s (n - d + s)) G 0 0 F) : ∀ (k i : Nat), n - d + s - i = k → i ≤ n - d + s → p ≤ i → mm_Go E qR_edit 47 [some (.ref 69), some (.int (nI p)), some (.int (nI d)), some (.int (nI (n - d + s))), some (.int (nI i))] [] 86 (ed_tx J p d s i) G 0 0 F
  | 0, i, hk, hi, hpi => by
    refine mm_iload rfl rfl ?_
    refine mm_iload_n rfl rfl ?_
    refine mm_icmp_geN (tgt := 103) rfl (by decide) (by omega) (by omega) (fun h50 => ?_) (fun h50 => ?_)
    · obtain rfl : n - d + s = i := by omega
      exact kk
    · exact absurd h50 (by omega)
  | k + 1, i, hk, hi, hpi => by
    refine mm_iload rfl rfl ?_
    refine mm_iload_n rfl rfl ?_
    refine mm_icmp_geN (tgt := 103) rfl (by decide) (by omega) (by omega) (fun h50 => ?_) (fun h50 => ?_)
    · exact absurd h50 (by omega)
    · refine mm_aload_n rfl rfl ?_
      refine mm_getR rfl rfl rfl (by decide) rfl (mm_gi hG 69 0 70 (by decide)) ?_
      refine mm_iload rfl rfl ?_
      refine mm_iload rfl rfl ?_
      refine mm_iload_n rfl rfl ?_
      refine mm_aload_n rfl rfl ?_
      refine mm_getI (x := nI s) rfl rfl rfl (by decide) rfl (by simp [ed_tx, hs]) ?_
      refine mm_iaddN rfl ?_
      refine mm_icmp_geN (tgt := 82) rfl (by decide) (by omega) (by omega) (fun h67 => ?_) (fun h67 => ?_)
      · refine mm_aload_n rfl rfl ?_
        refine mm_getR rfl rfl rfl (by decide) rfl (mm_gi hG 69 1 71 (by decide)) ?_
        refine mm_iload rfl rfl ?_
        refine mm_aload_n rfl rfl ?_
        refine mm_getI (x := nI s) rfl rfl rfl (by decide) rfl (by simp [ed_tx, hs]) ?_
        refine mm_isubN rfl (by omega) ?_
        refine mm_iload_n rfl rfl ?_
        refine mm_iaddN rfl ?_
        refine mm_rdN (x := J 71 (i - s + d)) rfl (by decide) rfl (by decide) (by omega) (by decide) rfl (by simp [ed_tx]) ?_
        refine mm_wrN rfl (by decide) rfl (by decide) (by omega) (by decide) rfl ?_
        refine mm_iincN rfl rfl (mm_inc1 _) (by decide) ?_
        refine mm_goto (tgt := 47) rfl (by decide) ?_
        rw [ed_tx_s J hpi (by rw [if_neg (by omega)])]
        exact lR_edB hG hn2 hpd hs3 hs hs2 kk k (i + 1) (by omega) (by omega) (by omega)
      · refine mm_aload_n rfl rfl ?_
        refine mm_getR rfl rfl rfl (by decide) rfl (mm_gi hG 69 2 72 (by decide)) ?_
        refine mm_iload rfl rfl ?_
        refine mm_iload_n rfl rfl ?_
        refine mm_isubN rfl (by omega) ?_
        refine mm_rdN (x := J 72 (i - p)) rfl (by decide) rfl (by decide) (by omega) (by decide) rfl (by simp [ed_tx]) ?_
        refine mm_goto (tgt := 96) rfl (by decide) ?_
        refine mm_wrN rfl (by decide) rfl (by decide) (by omega) (by decide) rfl ?_
        refine mm_iincN rfl rfl (mm_inc1 _) (by decide) ?_
        refine mm_goto (tgt := 47) rfl (by decide) ?_
        rw [ed_tx_s J hpi (by rw [if_pos h67])]
        exact lR_edB hG hn2 hpd hs3 hs hs2 kk k (i + 1) (by omega) (by omega) (by omega)
set_option maxRecDepth 100000 in
set_option maxHeartbeats 4000000 in
theorem lR_edC {E : mm_E} {G : mm_G} {J : mm_J} (hG : mm_GI G) {p d s : Nat} {z : Int32} (hpd : p + d ≤ 100) (hs : J 69 4 = nI s) (hs2 : s ≤ 100) (hmk : ∀ i, i < 4 → ed_vp (J 73 i)) (hfo : ∀ i, i < 4 → ed_vb (J 74 i)) : ∀ (k i : Nat), 4 - i = k → i ≤ 4 → mm_Go E qR_edit 136 [some (.ref 69), some (.int (nI p)), some (.int (nI d)), some (.int z), some (.int (nI i))] [] 86 (ed_mk J p d s i) G 0 0 (mm_Fm E qR_edit (mm_is none 86 (ed_mk J p d s 4) G))
  | 0, i, hk, hi => by
    refine mm_iload rfl rfl ?_
    refine mm_iconst (v := nI 4) rfl (by decide) ?_
    refine mm_icmp_geN (tgt := 188) rfl (by decide) (by omega) (by omega) (fun h139 => ?_) (fun h139 => ?_)
    · refine mm_return rfl rfl (by decide) (by decide) ?_
      exact ⟨rfl, rfl, by rw [show i = 4 by omega], rfl⟩
    · exact absurd h139 (by omega)
  | k + 1, i, hk, hi => by
    refine mm_iload rfl rfl ?_
    refine mm_iconst (v := nI 4) rfl (by decide) ?_
    refine mm_icmp_geN (tgt := 188) rfl (by decide) (by omega) (by omega) (fun h139 => ?_) (fun h139 => ?_)
    · exact absurd h139 (by omega)
    · refine mm_aload_n rfl rfl ?_
      refine mm_getR rfl rfl rfl (by decide) rfl (mm_gi hG 69 10 73 (by decide)) ?_
      refine mm_iload rfl rfl ?_
      refine mm_rdN (x := J 73 i) rfl (by decide) rfl (by decide) (by omega) (by decide) rfl (by simp [ed_mk]) ?_
      refine mm_if_lt (tgt := 182) rfl (by decide) (fun h149 => ?_) (fun h149 => ?_)
      · refine mm_iincN rfl rfl (mm_inc1 _) (by decide) ?_
        refine mm_goto (tgt := 136) rfl (by decide) ?_
        refine mm_J_eq (J2 := ed_mk J p d s (i + 1)) ?_ (lR_edC hG hpd hs hs2 hmk hfo k (i + 1) (by omega) (by omega))
        rw [← ed_mk_s J rfl, ed_pm_n _ _ _ _ (ed_vp_neg (hmk i (by omega)) h149)]
        exact (mm_set_self (by simp [ed_mk])).symm
      · refine mm_aload_n rfl rfl ?_
        refine mm_getR rfl rfl rfl (by decide) rfl (mm_gi hG 69 10 73 (by decide)) ?_
        refine mm_iload rfl rfl ?_
        refine mm_aload_n rfl rfl ?_
        refine mm_getR rfl rfl rfl (by decide) rfl (mm_gi hG 69 10 73 (by decide)) ?_
        refine mm_iload rfl rfl ?_
        refine mm_rdN (x := J 73 i) rfl (by decide) rfl (by decide) (by omega) (by decide) rfl (by simp [ed_mk]) ?_
        refine mm_iload_n rfl rfl ?_
        refine mm_iload_n rfl rfl ?_
        refine mm_aload_n rfl rfl ?_
        refine mm_getI (x := nI s) rfl rfl rfl (by decide) rfl (by simp [ed_mk, hs]) ?_
        refine mm_aload_n rfl rfl ?_
        refine mm_getR rfl rfl rfl (by decide) rfl (mm_gi hG 69 11 74 (by decide)) ?_
        refine mm_iload rfl rfl ?_
        refine mm_rzN (x := J 74 i) rfl (by decide) rfl (by decide) (by omega) (by decide) rfl (by simp [ed_mk]) ?_
        refine mm_isS5 (M2 := qR_moved) wd_642 qR_moved_k (by decide) (sR_moved (hmk i (by omega)) h149 (hfo i (by omega)) hpd hs2) (Nat.le_of_ble_eq_true rfl) (by decide) (by decide) rfl (by decide) ?_
        refine mm_wrN rfl (by decide) rfl (by decide) (by omega) (by decide) rfl ?_
        refine mm_iincN rfl rfl (mm_inc1 _) (by decide) ?_
        refine mm_goto (tgt := 136) rfl (by decide) ?_
        rw [ed_mk_s J rfl]
        exact lR_edC hG hpd hs hs2 hmk hfo k (i + 1) (by omega) (by omega)
set_option maxRecDepth 100000 in
set_option maxHeartbeats 4000000 in
theorem sR_edit {E : mm_E} {G : mm_G} {J : mm_J} (hG : mm_GI G) {n p d s : Nat} (hn : J 69 3 = nI n) (hn2 : n ≤ 100) (hs : J 69 4 = nI s) (hs2 : s ≤ 100) (hpd : p + d ≤ n) (hs3 : n - d + s ≤ 100) (hmark : ed_vp (J 69 6)) (hmk : ∀ i, i < 4 → ed_vp (J 73 i)) (hfo : ∀ i, i < 4 → ed_vb (J 74 i)) : mm_Ret E qR_edit [.ref 69, .int (nI p), .int (nI d)] 86 J G none 86 (ed_Re J n p d s) G := by
  refine mm_Met.of qR_edit_ok (by decide) (mm_cats rfl) (Nat.le_of_ble_eq_true rfl) ?_
  refine mm_aload_n rfl rfl ?_
  refine mm_getI (x := nI n) rfl rfl rfl (by decide) rfl hn ?_
  refine mm_iload_n rfl rfl ?_
  refine mm_isubN rfl (by omega) ?_
  refine mm_aload_n rfl rfl ?_
  refine mm_getI (x := nI s) rfl rfl rfl (by decide) rfl hs ?_
  refine mm_iaddN rfl ?_
  refine mm_istore_n rfl (by decide) ?_
  refine mm_iconst (v := nI 0) rfl (by decide) ?_
  refine mm_istore rfl (by decide) ?_
  refine mm_J_eq (mm_cp_0 J 70 71 0 0).symm (lR_edA hG hn2 hpd hs3 hn ?_ n 0 rfl (by omega))
  refine mm_iload_n rfl rfl ?_
  refine mm_istore rfl (by decide) ?_
  refine mm_J_eq (ed_tx_0 _ p d s).symm (lR_edB (J := mm_cp J 70 71 0 0 n) hG hn2 hpd hs3 (by simp [mm_cp, hs]) hs2 ?_ (n - d + s - p) p rfl (by omega) (Nat.le_refl p))
  refine mm_aload_n rfl rfl ?_
  refine mm_iload_n rfl rfl ?_
  refine mm_putI rfl rfl rfl (by decide) rfl (Or.inl rfl) rfl rfl ?_
  refine mm_aload_n rfl rfl ?_
  refine mm_getI (x := J 69 6) rfl rfl rfl (by decide) rfl (by simp [mm_set, ed_tx, mm_cp]) ?_
  refine mm_if_lt (tgt := 133) rfl (by decide) (fun h112 => ?_) (fun h112 => ?_)
  · refine mm_iconst (v := nI 0) rfl (by decide) ?_
    refine mm_istore rfl (by decide) ?_
    refine mm_J_eq (J2 := ed_mk (mm_set (mm_set (ed_tx (mm_cp J 70 71 0 0 n) p d s (n - d + s)) 69 3 (nI (n - d + s))) 69 6 (ed_pm (J 69 6) (nI 0) p d s)) p d s 0) ?_ (lR_edC hG (by omega) (by simp [mm_set, ed_tx, mm_cp, hs]) hs2 (fun i hi => by simpa [mm_set, ed_tx, mm_cp] using hmk i hi) (fun i hi => by simpa [mm_set, ed_tx, mm_cp] using hfo i hi) 4 0 rfl (by omega))
    rw [ed_mk_0, ed_pm_n _ _ _ _ (ed_vp_neg hmark h112)]
    exact (mm_set_self (by simp [mm_set, ed_tx, mm_cp])).symm
  · refine mm_aload_n rfl rfl ?_
    refine mm_aload_n rfl rfl ?_
    refine mm_getI (x := J 69 6) rfl rfl rfl (by decide) rfl (by simp [mm_set, ed_tx, mm_cp]) ?_
    refine mm_iload_n rfl rfl ?_
    refine mm_iload_n rfl rfl ?_
    refine mm_aload_n rfl rfl ?_
    refine mm_getI (x := nI s) rfl rfl rfl (by decide) rfl (by simp [mm_set, ed_tx, mm_cp, hs]) ?_
    refine mm_iconst (v := nI 0) rfl (by decide) ?_
    refine mm_isS5 (M2 := qR_moved) wd_642 qR_moved_k (by decide) (sR_moved hmark h112 ⟨0, by decide, rfl⟩ (by omega) hs2) (Nat.le_of_ble_eq_true rfl) (by decide) (by decide) rfl (by decide) ?_
    refine mm_putI rfl rfl rfl (by decide) rfl (Or.inl rfl) rfl rfl ?_
    refine mm_iconst (v := nI 0) rfl (by decide) ?_
    refine mm_istore rfl (by decide) ?_
    refine mm_J_eq (J2 := ed_mk (mm_set (mm_set (ed_tx (mm_cp J 70 71 0 0 n) p d s (n - d + s)) 69 3 (nI (n - d + s))) 69 6 (ed_pm (J 69 6) (nI 0) p d s)) p d s 0) (ed_mk_0 _ _ _ _).symm (lR_edC hG (by omega) (by simp [mm_set, ed_tx, mm_cp, hs]) hs2 (fun i hi => by simpa [mm_set, ed_tx, mm_cp] using hmk i hi) (fun i hi => by simpa [mm_set, ed_tx, mm_cp] using hfo i hi) 4 0 rfl (by omega))
def ed_RI (J : mm_J) (n m s : Nat) : Prop := J 69 3 = nI n ∧ n ≤ 100 ∧ J 69 4 = nI s ∧ s ≤ 100 ∧ ed_vp (J 69 6) ∧ (∀ i, i < 4 → ed_vp (J 73 i)) ∧ (∀ i, i < 4 → ed_vb (J 74 i)) ∧ J 69 23 = nI m ∧ m < 2 ^ 30
set_option maxRecDepth 100000 in
set_option maxHeartbeats 4000000 in
theorem lR_step {E : mm_E} {G : mm_G} {J : mm_J} (hG : mm_GI G) {n p d k : Nat} {F : mm_F} (hn : J 69 3 = nI n) (hn2 : n ≤ 100) (hk20 : k < 20) (kk : mm_Go E qR_step 55 [some (.ref 69), some (.int (nI p)), some (.int (nI d)), some (.int (nI k)), some (.int (nI n))] [] 86 (mm_cp J 70 77 0 (k * 100) n) G 0 0 F) : ∀ (q i : Nat), n - i = q → i ≤ n → mm_Go E qR_step 21 [some (.ref 69), some (.int (nI p)), some (.int (nI d)), some (.int (nI k)), some (.int (nI i))] [] 86 (mm_cp J 70 77 0 (k * 100) i) G 0 0 F
  | 0, i, hq, hi => by
    refine mm_iload rfl rfl ?_
    refine mm_aload_n rfl rfl ?_
    refine mm_getI (x := nI n) rfl rfl rfl (by decide) rfl (by simp [mm_cp, hn]) ?_
    refine mm_icmp_geN (tgt := 55) rfl (by decide) (by omega) (by omega) (fun h27 => ?_) (fun h27 => ?_)
    · obtain rfl : n = i := by omega
      exact kk
    · exact absurd h27 (by omega)
  | q + 1, i, hq, hi => by
    refine mm_iload rfl rfl ?_
    refine mm_aload_n rfl rfl ?_
    refine mm_getI (x := nI n) rfl rfl rfl (by decide) rfl (by simp [mm_cp, hn]) ?_
    refine mm_icmp_geN (tgt := 55) rfl (by decide) (by omega) (by omega) (fun h27 => ?_) (fun h27 => ?_)
    · exact absurd h27 (by omega)
    · refine mm_aload_n rfl rfl ?_
      refine mm_getR rfl rfl rfl (by decide) rfl (mm_gi hG 69 18 77 (by decide)) ?_
      refine mm_iload_n rfl rfl ?_
      refine mm_bipush (v := nI 100) rfl (by decide) ?_
      refine mm_imulN rfl ?_
      refine mm_iload rfl rfl ?_
      refine mm_iaddN rfl ?_
      refine mm_aload_n rfl rfl ?_
      refine mm_getR rfl rfl rfl (by decide) rfl (mm_gi hG 69 0 70 (by decide)) ?_
      refine mm_iload rfl rfl ?_
      refine mm_rdN (x := J 70 (0 + i)) rfl (by decide) rfl (by decide) (by omega) (by decide) rfl (by simp [mm_cp]) ?_
      refine mm_wrN rfl (by decide) rfl (by decide) (by omega) (by decide) rfl ?_
      refine mm_iincN rfl rfl (mm_inc1 _) (by decide) ?_
      refine mm_goto (tgt := 21) rfl (by decide) ?_
      rw [mm_cp_s J (a := 70) (b := 77) 0 (k * 100) i (by decide)]
      exact lR_step hG hn hn2 hk20 kk q (i + 1) (by omega) (by omega)
set_option maxRecDepth 100000 in
set_option maxHeartbeats 4000000 in
theorem sR_step {E : mm_E} {G : mm_G} {J : mm_J} (hG : mm_GI G) {n m p d s : Nat} (hT : ed_RI J n m s) (hpd : p + d ≤ n) (hs3 : n - d + s ≤ 100) : mm_Ret E qR_step [.ref 69, .int (nI p), .int (nI d)] 86 J G none 86 (ed_Re (ed_Rs J n m p d s) n p d s) G := by
  refine mm_Met.of qR_step_ok (by decide) (mm_cats rfl) (Nat.le_of_ble_eq_true rfl) ?_
  have hn2 := hT.2.1
  have hs2 := hT.2.2.2.1
  have hm2 := hT.2.2.2.2.2.2.2.2
  have hk20 : (m + 1) % 20 < 20 := ed_mod
  refine mm_aload_n rfl rfl ?_
  refine mm_dup rfl rfl ?_
  refine mm_getI (x := nI m) rfl rfl rfl (by decide) rfl hT.2.2.2.2.2.2.2.1 ?_
  refine mm_iconst (v := nI 1) rfl (by decide) ?_
  refine mm_iaddN rfl ?_
  refine mm_putI rfl rfl rfl (by decide) rfl (Or.inl rfl) rfl rfl ?_
  refine mm_aload_n rfl rfl ?_
  refine mm_getI (x := nI (m + 1)) rfl rfl rfl (by decide) rfl (by simp [mm_set]) ?_
  refine mm_bipush (v := nI 20) rfl (by decide) ?_
  refine mm_iremN rfl (by omega) (by omega) (by omega) ?_
  refine mm_istore_n rfl (by decide) ?_
  refine mm_iconst (v := nI 0) rfl (by decide) ?_
  refine mm_istore rfl (by decide) ?_
  refine mm_J_eq (mm_cp_0 _ 70 77 0 ((m + 1) % 20 * 100)).symm (lR_step hG (by simp [mm_set, hT.1]) hn2 hk20 ?_ n 0 rfl (by omega))
  refine mm_aload_n rfl rfl ?_
  refine mm_getR rfl rfl rfl (by decide) rfl (mm_gi hG 69 19 78 (by decide)) ?_
  refine mm_iload_n rfl rfl ?_
  refine mm_aload_n rfl rfl ?_
  refine mm_getI (x := nI n) rfl rfl rfl (by decide) rfl (by simp [mm_set, mm_cp, hT.1]) ?_
  refine mm_wrN rfl (by decide) rfl (by decide) hk20 (by decide) rfl ?_
  refine mm_aload_n rfl rfl ?_
  refine mm_getR rfl rfl rfl (by decide) rfl (mm_gi hG 69 20 79 (by decide)) ?_
  refine mm_iload_n rfl rfl ?_
  refine mm_iload_n rfl rfl ?_
  refine mm_wrN rfl (by decide) rfl (by decide) hk20 (by decide) rfl ?_
  refine mm_aload_n rfl rfl ?_
  refine mm_getR rfl rfl rfl (by decide) rfl (mm_gi hG 69 21 80 (by decide)) ?_
  refine mm_iload_n rfl rfl ?_
  refine mm_iload_n rfl rfl ?_
  refine mm_wrN rfl (by decide) rfl (by decide) hk20 (by decide) rfl ?_
  refine mm_aload_n rfl rfl ?_
  refine mm_getR rfl rfl rfl (by decide) rfl (mm_gi hG 69 22 81 (by decide)) ?_
  refine mm_iload_n rfl rfl ?_
  refine mm_aload_n rfl rfl ?_
  refine mm_getI (x := nI s) rfl rfl rfl (by decide) rfl (by simp [mm_set, mm_cp, hT.2.2.1]) ?_
  refine mm_wrN rfl (by decide) rfl (by decide) hk20 (by decide) rfl ?_
  refine mm_aload_n rfl rfl ?_
  refine mm_iload_n rfl rfl ?_
  refine mm_iload_n rfl rfl ?_
  refine mm_isV2 (M2 := qR_edit) wd_638 qR_edit_k (by decide) (sR_edit (J := ed_Rs J n m p d s) (n := n) (s := s) hG (by simp [ed_Rs, mm_set, mm_cp, hT.1]) hn2 (by simp [ed_Rs, mm_set, mm_cp, hT.2.2.1]) hs2 hpd hs3 (by simpa [ed_Rs, mm_set, mm_cp] using hT.2.2.2.2.1) (fun i hi => by simpa [ed_Rs, mm_set, mm_cp] using hT.2.2.2.2.2.1 i hi) (fun i hi => by simpa [ed_Rs, mm_set, mm_cp] using hT.2.2.2.2.2.2.1 i hi)) rfl (by decide) (Nat.le_of_ble_eq_true rfl) (by decide) (by decide) rfl (by decide) ?_
  refine mm_return rfl rfl (by decide) (by decide) ?_
  exact ⟨rfl, rfl, rfl, rfl⟩
