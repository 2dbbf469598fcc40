/-- the reference's bindings -/
abbrev ed_Q : Type := Int32 × Int32 × Int32 × Int32
def ed_e (J : mm_J) (i : Nat) : ed_Q := (J 82 (i * 3), J 82 (i * 3 + 1), J 82 (i * 3 + 2), J 83 i)
def ed_sz (e : ed_Q) : Nat := if e.2.1 < 0 then 1 else if e.2.2.1 < 0 then 2 else 3
def ed_bg (m : Nat) (f s t : Int32) (e : ed_Q) : Bool := decide (e.1 = f ∧ (1 < m → e.2.1 = s) ∧ (3 ≤ m → e.2.2.1 = t))
theorem ed_sz_le (e : ed_Q) : 1 ≤ ed_sz e ∧ ed_sz e ≤ 3 := by
  unfold ed_sz
  split
  · omega
  · split <;> omega
/-- k bindings from b on -/
def ed_LS (J : mm_J) (b k : Nat) : List ed_Q := (List.range k).map (fun i => ed_e J (b + i))
theorem ed_LS_s (J : mm_J) (b k : Nat) : ed_LS J b (k + 1) = ed_LS J b k ++ [ed_e J (b + k)] := by
  unfold ed_LS
  rw [List.range_succ, List.map_append]
  rfl
theorem ed_LS_c (J : mm_J) (b : Nat) : ∀ k, ed_LS J b (k + 1) = ed_e J b :: ed_LS J (b + 1) k
  | 0 => rfl
  | k + 1 => by rw [ed_LS_s, ed_LS_c J b k, ed_LS_s, List.cons_append, show b + (k + 1) = b + 1 + k by omega]
theorem ed_LS_e {J J' : mm_J} {b : Nat} : ∀ k, (∀ i, b ≤ i → i < b + k → ed_e J' i = ed_e J i) → ed_LS J' b k = ed_LS J b k
  | 0, _ => rfl
  | k + 1, h => by rw [ed_LS_s, ed_LS_s, ed_LS_e k (fun i a c => h i a (by omega)), h (b + k) (by omega) (by omega)]
theorem ed_LS_l (J : mm_J) (b k : Nat) : (ed_LS J b k).length = k := by simp [ed_LS]
abbrev ed_LM (J : mm_J) (c : Nat) : List ed_Q := ed_LS J 0 c
theorem ed_LM_s (J : mm_J) (c : Nat) : ed_LM J (c + 1) = ed_LM J c ++ [ed_e J c] := by
  have h := ed_LS_s J 0 c
  rw [Nat.zero_add] at h
  exact h
/-- what a binding of f s t with the command num leaves -/
def ed_kR (m : Nat) (ng : Bool) (f s t : Int32) (e : ed_Q) : Bool := decide (ed_sz e < m ∨ (ng = true ∧ m < ed_sz e) ∨ ed_bg m f s t e = false)
theorem mm_set_o {J : mm_J} {i k a b : Nat} {x : Int32} (h : ¬ (a = i ∧ b = k)) : mm_set J i k x a b = J a b := if_neg h
theorem mm_set_i {J : mm_J} {i k : Nat} {x : Int32} : mm_set J i k x i k = x := if_pos ⟨rfl, rfl⟩
def ed_pr : Nat → Int32
  | 0 => -1
  | b + 1 => nI b
theorem ed_pr_d (b : Nat) : nI b + Int32.ofInt (-1) = ed_pr b := by
  cases b with
  | zero => rfl
  | succ b => exact mm_dec1 (a := b + 1) (by omega)
theorem ed_pr_c (b : Nat) : nI b - nI 1 = ed_pr b := by
  cases b with
  | zero => rfl
  | succ b => exact pk_sub (a := b + 1) (b := 1) (by omega)
set_option maxRecDepth 100000 in
set_option maxHeartbeats 4000000 in
theorem sR_size {E : mm_E} {G : mm_G} {J : mm_J} (hG : mm_GI G) {b : Nat} (hb : b < 24) : mm_Ret E qR_size [.ref 69, .int (nI b)] 86 J G (some (.int (nI (ed_sz (ed_e J b))))) 86 J G := by
  refine mm_Met.of qR_size_ok (by decide) (mm_cats rfl) (Nat.le_of_ble_eq_true rfl) ?_
  refine mm_aload_n rfl rfl ?_
  refine mm_getR rfl rfl rfl (by decide) rfl (mm_gi hG 69 25 82 (by decide)) ?_
  refine mm_iload_n rfl rfl ?_
  refine mm_iconst (v := nI 3) rfl (by decide) ?_
  refine mm_imulN rfl ?_
  refine mm_iconst (v := nI 1) rfl (by decide) ?_
  refine mm_iaddN rfl ?_
  refine mm_rdN rfl (by decide) rfl (by decide) (by omega) (by decide) rfl rfl ?_
  refine mm_if_ge (tgt := 17) rfl (by decide) (fun h10 => ?_) (fun h10 => ?_)
  · refine mm_aload_n rfl rfl ?_
    refine mm_getR rfl rfl rfl (by decide) rfl (mm_gi hG 69 25 82 (by decide)) ?_
    refine mm_iload_n rfl rfl ?_
    refine mm_iconst (v := nI 3) rfl (by decide) ?_
    refine mm_imulN rfl ?_
    refine mm_iconst (v := nI 2) rfl (by decide) ?_
    refine mm_iaddN rfl ?_
    refine mm_rdN rfl (by decide) rfl (by decide) (by omega) (by decide) rfl rfl ?_
    refine mm_if_ge (tgt := 34) rfl (by decide) (fun h27 => ?_) (fun h27 => ?_)
    · refine mm_iconst (v := nI 3) rfl (by decide) ?_
      refine mm_ireturn rfl rfl rfl (by decide) (by decide) ?_
      exact ⟨by rw [show ed_sz (ed_e J b) = 3 from (if_neg (Int32.not_lt.mpr h10)).trans (if_neg (Int32.not_lt.mpr h27))], rfl, rfl, rfl⟩
    · refine mm_iconst (v := nI 2) rfl (by decide) ?_
      refine mm_goto (tgt := 35) rfl (by decide) ?_
      refine mm_ireturn rfl rfl rfl (by decide) (by decide) ?_
      exact ⟨by rw [show ed_sz (ed_e J b) = 2 from (if_neg (Int32.not_lt.mpr h10)).trans (if_pos (Int32.not_le.mp h27))], rfl, rfl, rfl⟩
  · refine mm_iconst (v := nI 1) rfl (by decide) ?_
    refine mm_goto (tgt := 35) rfl (by decide) ?_
    refine mm_ireturn rfl rfl rfl (by decide) (by decide) ?_
    exact ⟨by rw [show ed_sz (ed_e J b) = 1 from if_pos (Int32.not_le.mp h10)], rfl, rfl, rfl⟩
set_option maxRecDepth 100000 in
set_option maxHeartbeats 4000000 in
theorem sR_begins {E : mm_E} {G : mm_G} {J : mm_J} (hG : mm_GI G) {b m : Nat} {f s t : Int32} (hb : b < 24) (hm : m < 2 ^ 31) : mm_Ret E qR_begins [.ref 69, .int (nI b), .int (nI m), .int f, .int s, .int t] 86 J G (some (.int (nI (ed_b (ed_bg m f s t (ed_e J b)))))) 86 J G := by
  refine mm_Met.of qR_begins_ok (by decide) (mm_cats rfl) (Nat.le_of_ble_eq_true rfl) ?_
  refine mm_aload_n rfl rfl ?_
  refine mm_getR rfl rfl rfl (by decide) rfl (mm_gi hG 69 25 82 (by decide)) ?_
  refine mm_iload_n rfl rfl ?_
  refine mm_iconst (v := nI 3) rfl (by decide) ?_
  refine mm_imulN rfl ?_
  refine mm_rdN rfl (by decide) rfl (by decide) (by omega) (by decide) rfl rfl ?_
  refine mm_iload_n rfl rfl ?_
  refine mm_icmp_ne (tgt := 32) rfl (by decide) (fun h9 => ?_) (fun h9 => ?_)
  · refine mm_iconst (v := nI 0) rfl (by decide) ?_
    refine mm_ireturn rfl rfl rfl (by decide) (by decide) ?_
    exact ⟨by rw [show ed_bg m f s t (ed_e J b) = false from decide_eq_false (fun q => h9 q.1)]; rfl, rfl, rfl, rfl⟩
  · refine mm_iload_n rfl rfl ?_
    refine mm_iconst (v := nI 1) rfl (by decide) ?_
    refine mm_icmp_leN (tgt := 34) rfl (by decide) (by omega) (by omega) (fun h14 => ?_) (fun h14 => ?_)
    · refine mm_iload_n rfl rfl ?_
      refine mm_iconst (v := nI 3) rfl (by decide) ?_
      refine mm_icmp_ltN (tgt := 54) rfl (by decide) (by omega) (by omega) (fun h36 => ?_) (fun h36 => ?_)
      · refine mm_iconst (v := nI 1) rfl (by decide) ?_
        refine mm_goto (tgt := 59) rfl (by decide) ?_
        refine mm_ireturn rfl rfl rfl (by decide) (by decide) ?_
        exact ⟨by rw [show ed_bg m f s t (ed_e J b) = true from decide_eq_true (⟨h9, fun q => absurd q (by omega), fun q => absurd q (by omega)⟩)]; rfl, rfl, rfl, rfl⟩
      · exact absurd h36 (by omega)
    · refine mm_aload_n rfl rfl ?_
      refine mm_getR rfl rfl rfl (by decide) rfl (mm_gi hG 69 25 82 (by decide)) ?_
      refine mm_iload_n rfl rfl ?_
      refine mm_iconst (v := nI 3) rfl (by decide) ?_
      refine mm_imulN rfl ?_
      refine mm_iconst (v := nI 1) rfl (by decide) ?_
      refine mm_iaddN rfl ?_
      refine mm_rdN rfl (by decide) rfl (by decide) (by omega) (by decide) rfl rfl ?_
      refine mm_iload rfl rfl ?_
      refine mm_icmp_eq (tgt := 34) rfl (by decide) (fun h29 => ?_) (fun h29 => ?_)
      · refine mm_iload_n rfl rfl ?_
        refine mm_iconst (v := nI 3) rfl (by decide) ?_
        refine mm_icmp_ltN (tgt := 54) rfl (by decide) (by omega) (by omega) (fun h36 => ?_) (fun h36 => ?_)
        · refine mm_iconst (v := nI 1) rfl (by decide) ?_
          refine mm_goto (tgt := 59) rfl (by decide) ?_
          refine mm_ireturn rfl rfl rfl (by decide) (by decide) ?_
          exact ⟨by rw [show ed_bg m f s t (ed_e J b) = true from decide_eq_true (⟨h9, fun _ => h29, fun q => absurd q (by omega)⟩)]; rfl, rfl, rfl, rfl⟩
        · refine mm_aload_n rfl rfl ?_
          refine mm_getR rfl rfl rfl (by decide) rfl (mm_gi hG 69 25 82 (by decide)) ?_
          refine mm_iload_n rfl rfl ?_
          refine mm_iconst (v := nI 3) rfl (by decide) ?_
          refine mm_imulN rfl ?_
          refine mm_iconst (v := nI 2) rfl (by decide) ?_
          refine mm_iaddN rfl ?_
          refine mm_rdN rfl (by decide) rfl (by decide) (by omega) (by decide) rfl rfl ?_
          refine mm_iload rfl rfl ?_
          refine mm_icmp_ne (tgt := 58) rfl (by decide) (fun h51 => ?_) (fun h51 => ?_)
          · refine mm_iconst (v := nI 0) rfl (by decide) ?_
            refine mm_ireturn rfl rfl rfl (by decide) (by decide) ?_
            exact ⟨by rw [show ed_bg m f s t (ed_e J b) = false from decide_eq_false (fun q => h51 (q.2.2 h36))]; rfl, rfl, rfl, rfl⟩
          · refine mm_iconst (v := nI 1) rfl (by decide) ?_
            refine mm_goto (tgt := 59) rfl (by decide) ?_
            refine mm_ireturn rfl rfl rfl (by decide) (by decide) ?_
            exact ⟨by rw [show ed_bg m f s t (ed_e J b) = true from decide_eq_true (⟨h9, fun _ => h29, fun _ => h51⟩)]; rfl, rfl, rfl, rfl⟩
      · refine mm_iconst (v := nI 0) rfl (by decide) ?_
        refine mm_ireturn rfl rfl rfl (by decide) (by decide) ?_
        exact ⟨by rw [show ed_bg m f s t (ed_e J b) = false from decide_eq_false (fun q => h29 (q.2.1 h14))]; rfl, rfl, rfl, rfl⟩
def ed_db (J : mm_J) (c b : Nat) : mm_J := mm_set (mm_set (mm_set (mm_set (mm_set J 69 27 (nI (c - 1))) 82 (b * 3 + 0) (J 82 ((c - 1) * 3 + 0))) 82 (b * 3 + (0 + 1)) (J 82 ((c - 1) * 3 + (0 + 1)))) 82 (b * 3 + (0 + 1 + 1)) (J 82 ((c - 1) * 3 + (0 + 1 + 1)))) 83 b (J 83 (c - 1))
set_option maxRecDepth 100000 in
set_option maxHeartbeats 4000000 in
theorem sR_dropBinding {E : mm_E} {G : mm_G} {J : mm_J} (hG : mm_GI G) {c b : Nat} (hc : J 69 27 = nI c) (hc2 : c ≤ 24) (hb : b < c) : mm_Ret E qR_dropBinding [.ref 69, .int (nI b)] 86 J G none 86 (ed_db J c b) G := by
  refine mm_Met.of qR_dropBinding_ok (by decide) (mm_cats rfl) (Nat.le_of_ble_eq_true rfl) ?_
  refine mm_aload_n rfl rfl ?_
  refine mm_dup rfl rfl ?_
  refine mm_getI (x := nI c) rfl rfl rfl (by decide) rfl hc ?_
  refine mm_iconst (v := nI 1) rfl (by decide) ?_
  refine mm_isubN rfl (by omega) ?_
  refine mm_putI rfl rfl rfl (by decide) rfl (Or.inl rfl) rfl rfl ?_
  refine mm_iconst (v := nI 0) rfl (by decide) ?_
  refine mm_istore_n rfl (by decide) ?_
  refine mm_iload_n rfl rfl ?_
  refine mm_iconst (v := nI 3) rfl (by decide) ?_
  refine mm_icmp_geN (tgt := 46) rfl (by decide) (by decide) (by decide) (fun h => absurd h (by decide)) (fun _ => ?_)
  refine mm_aload_n rfl rfl ?_
  refine mm_getR rfl rfl rfl (by decide) rfl (mm_gi hG 69 25 82 (by decide)) ?_
  refine mm_iload_n rfl rfl ?_
  refine mm_iconst (v := nI 3) rfl (by decide) ?_
  refine mm_imulN rfl ?_
  refine mm_iload_n rfl rfl ?_
  refine mm_iaddN rfl ?_
  refine mm_aload_n rfl rfl ?_
  refine mm_getR rfl rfl rfl (by decide) rfl (mm_gi hG 69 25 82 (by decide)) ?_
  refine mm_aload_n rfl rfl ?_
  refine mm_getI (x := nI (c - 1)) rfl rfl rfl (by decide) rfl (by simp [mm_set]) ?_
  refine mm_iconst (v := nI 3) rfl (by decide) ?_
  refine mm_imulN rfl ?_
  refine mm_iload_n rfl rfl ?_
  refine mm_iaddN rfl ?_
  refine mm_rdN (x := J 82 ((c - 1) * 3 + 0)) rfl (by decide) rfl (by decide) (by omega) (by decide) rfl (by rw [mm_set_o (by omega)]) ?_
  refine mm_wrN rfl (by decide) rfl (by decide) (by omega) (by decide) rfl ?_
  refine mm_iincN rfl rfl (mm_inc1 _) (by decide) ?_
  refine mm_goto (tgt := 12) rfl (by decide) ?_
  refine mm_iload_n rfl rfl ?_
  refine mm_iconst (v := nI 3) rfl (by decide) ?_
  refine mm_icmp_geN (tgt := 46) rfl (by decide) (by decide) (by decide) (fun h => absurd h (by decide)) (fun _ => ?_)
  refine mm_aload_n rfl rfl ?_
  refine mm_getR rfl rfl rfl (by decide) rfl (mm_gi hG 69 25 82 (by decide)) ?_
  refine mm_iload_n rfl rfl ?_
  refine mm_iconst (v := nI 3) rfl (by decide) ?_
  refine mm_imulN rfl ?_
  refine mm_iload_n rfl rfl ?_
  refine mm_iaddN rfl ?_
  refine mm_aload_n rfl rfl ?_
  refine mm_getR rfl rfl rfl (by decide) rfl (mm_gi hG 69 25 82 (by decide)) ?_
  refine mm_aload_n rfl rfl ?_
  refine mm_getI (x := nI (c - 1)) rfl rfl rfl (by decide) rfl (by simp [mm_set]) ?_
  refine mm_iconst (v := nI 3) rfl (by decide) ?_
  refine mm_imulN rfl ?_
  refine mm_iload_n rfl rfl ?_
  refine mm_iaddN rfl ?_
  refine mm_rdN (x := J 82 ((c - 1) * 3 + (0 + 1))) rfl (by decide) rfl (by decide) (by omega) (by decide) rfl (by rw [mm_set_o (by omega), mm_set_o (by omega)]) ?_
  refine mm_wrN rfl (by decide) rfl (by decide) (by omega) (by decide) rfl ?_
  refine mm_iincN rfl rfl (mm_inc1 _) (by decide) ?_
  refine mm_goto (tgt := 12) rfl (by decide) ?_
  refine mm_iload_n rfl rfl ?_
  refine mm_iconst (v := nI 3) rfl (by decide) ?_
  refine mm_icmp_geN (tgt := 46) rfl (by decide) (by decide) (by decide) (fun h => absurd h (by decide)) (fun _ => ?_)
  refine mm_aload_n rfl rfl ?_
  refine mm_getR rfl rfl rfl (by decide) rfl (mm_gi hG 69 25 82 (by decide)) ?_
  refine mm_iload_n rfl rfl ?_
  refine mm_iconst (v := nI 3) rfl (by decide) ?_
  refine mm_imulN rfl ?_
  refine mm_iload_n rfl rfl ?_
  refine mm_iaddN rfl ?_
  refine mm_aload_n rfl rfl ?_
  refine mm_getR rfl rfl rfl (by decide) rfl (mm_gi hG 69 25 82 (by decide)) ?_
  refine mm_aload_n rfl rfl ?_
  refine mm_getI (x := nI (c - 1)) rfl rfl rfl (by decide) rfl (by simp [mm_set]) ?_
  refine mm_iconst (v := nI 3) rfl (by decide) ?_
  refine mm_imulN rfl ?_
  refine mm_iload_n rfl rfl ?_
  refine mm_iaddN rfl ?_
  refine mm_rdN (x := J 82 ((c - 1) * 3 + (0 + 1 + 1))) rfl (by decide) rfl (by decide) (by omega) (by decide) rfl (by rw [mm_set_o (by omega), mm_set_o (by omega), mm_set_o (by omega)]) ?_
  refine mm_wrN rfl (by decide) rfl (by decide) (by omega) (by decide) rfl ?_
  refine mm_iincN rfl rfl (mm_inc1 _) (by decide) ?_
  refine mm_goto (tgt := 12) rfl (by decide) ?_
  refine mm_iload_n rfl rfl ?_
  refine mm_iconst (v := nI 3) rfl (by decide) ?_
  refine mm_icmp_geN (tgt := 46) rfl (by decide) (by decide) (by decide) (fun _ => ?_) (fun h => absurd h (by decide))
  refine mm_aload_n rfl rfl ?_
  refine mm_getR rfl rfl rfl (by decide) rfl (mm_gi hG 69 26 83 (by decide)) ?_
  refine mm_iload_n rfl rfl ?_
  refine mm_aload_n rfl rfl ?_
  refine mm_getR rfl rfl rfl (by decide) rfl (mm_gi hG 69 26 83 (by decide)) ?_
  refine mm_aload_n rfl rfl ?_
  refine mm_getI (x := nI (c - 1)) rfl rfl rfl (by decide) rfl (by simp [mm_set]) ?_
  refine mm_rdN (x := J 83 (c - 1)) rfl (by decide) rfl (by decide) (by omega) (by decide) rfl (by rw [mm_set_o (by omega), mm_set_o (by omega), mm_set_o (by omega), mm_set_o (by omega)]) ?_
  refine mm_wrN rfl (by decide) rfl (by decide) (by omega) (by decide) rfl ?_
  refine mm_return rfl rfl (by decide) (by decide) ?_
  exact ⟨rfl, rfl, rfl, rfl⟩
theorem ed_db_e {J : mm_J} {c b i : Nat} (hb : b < c) (hi : i < c - 1) : ed_e (ed_db J c b) i = if i = b then ed_e J (c - 1) else ed_e J i := by
  unfold ed_e ed_db
  by_cases h : i = b
  · subst h
    rw [if_pos rfl]
    refine Prod.ext ?_ (Prod.ext ?_ (Prod.ext ?_ ?_))
    · dsimp only
      rw [mm_set_o (by omega), mm_set_o (by omega), mm_set_o (by omega)]
      exact mm_set_i
    · dsimp only
      rw [mm_set_o (by omega), mm_set_o (by omega), mm_set_i]
    · dsimp only
      rw [mm_set_o (by omega), mm_set_i]
    · exact mm_set_i
  · rw [if_neg h]
    refine Prod.ext ?_ (Prod.ext ?_ (Prod.ext ?_ ?_))
    · dsimp only
      rw [mm_set_o (by omega), mm_set_o (by omega), mm_set_o (by omega), mm_set_o (by omega), mm_set_o (by omega)]
    · dsimp only
      rw [mm_set_o (by omega), mm_set_o (by omega), mm_set_o (by omega), mm_set_o (by omega), mm_set_o (by omega)]
    · dsimp only
      rw [mm_set_o (by omega), mm_set_o (by omega), mm_set_o (by omega), mm_set_o (by omega), mm_set_o (by omega)]
    · dsimp only
      rw [mm_set_o (by omega), mm_set_o (by omega), mm_set_o (by omega), mm_set_o (by omega), mm_set_o (by omega)]
theorem ed_db_o {J : mm_J} {c b a k : Nat} (h1 : ¬ a = 82) (h2 : ¬ a = 83) (h3 : ¬ (a = 69 ∧ k = 27)) : ed_db J c b a k = J a k := by
  unfold ed_db
  rw [mm_set_o (by omega), mm_set_o (by omega), mm_set_o (by omega), mm_set_o (by omega), mm_set_o h3]
theorem ed_db_c {J : mm_J} {c b : Nat} : ed_db J c b 69 27 = nI (c - 1) := by
  unfold ed_db
  rw [mm_set_o (by omega), mm_set_o (by omega), mm_set_o (by omega), mm_set_o (by omega), mm_set_i]
set_option maxRecDepth 100000 in
set_option maxHeartbeats 4000000 in
theorem lR_bindF {E : mm_E} {G : mm_G} {J : mm_J} (hG : mm_GI G) {c S : Nat} {f s t num : Int32} (hc : J 69 27 = nI c) (hc2 : c ≤ 24) (hS : S ≤ 3) : ∀ (k i o : Nat) (z : Option Value), c - i = k → i ≤ c → o ≤ i → (∃ j, i ≤ j ∧ j < c ∧ ed_sz (ed_e J j) < S ∧ ed_bg (ed_sz (ed_e J j)) f s t (ed_e J j) = true) → mm_Go E qR_bind 82 [some (.ref 69), some (.int f), some (.int s), some (.int t), some (.int num), some (.int (nI S)), some (.int (nI o)), some (.int (nI i)), z] [] 86 J G 0 0 (mm_Fm E qR_bind (mm_is (some (.int (-3))) 86 J G))
  | 0, i, o, z, hk, hi, ho, hx => by
    exact absurd hx (fun ⟨j, h1, h2, _⟩ => by omega)
  | k + 1, i, o, z, hk, hi, ho, hx => by
    have hsz := ed_sz_le (ed_e J i)
    obtain ⟨j, hj1, hj2, hj3, hj4⟩ := hx
    refine mm_iload rfl rfl ?_
    refine mm_aload_n rfl rfl ?_
    refine mm_getI (x := nI c) rfl rfl rfl (by decide) rfl hc ?_
    refine mm_icmp_geN (tgt := 153) rfl (by decide) (by omega) (by omega) (fun h88 => ?_) (fun h88 => ?_)
    · exact absurd h88 (by omega)
    · refine mm_aload_n rfl rfl ?_
      refine mm_iload rfl rfl ?_
      refine mm_isV1 (M2 := qR_size) wd_615 qR_size_k (by decide) (sR_size hG (by omega)) rfl (by decide) (Nat.le_of_ble_eq_true rfl) (by decide) (by decide) rfl (by decide) ?_
      refine mm_istore rfl (by decide) ?_
      refine mm_iload rfl rfl ?_
      refine mm_iload rfl rfl ?_
      refine mm_icmp_geN (tgt := 123) rfl (by decide) (by omega) (by omega) (fun h103 => ?_) (fun h103 => ?_)
      · refine mm_iload rfl rfl ?_
        refine mm_iload rfl rfl ?_
        refine mm_icmp_ltN (tgt := 144) rfl (by decide) (by omega) (by omega) (fun h127 => ?_) (fun h127 => ?_)
        · exact absurd h127 (by omega)
        · refine mm_aload_n rfl rfl ?_
          refine mm_iload rfl rfl ?_
          refine mm_iload rfl rfl ?_
          refine mm_iload_n rfl rfl ?_
          refine mm_iload_n rfl rfl ?_
          refine mm_iload_n rfl rfl ?_
          refine mm_isV5 (M2 := qR_begins) wd_619 qR_begins_k (by decide) (sR_begins hG (by omega) (by omega)) rfl (by decide) (Nat.le_of_ble_eq_true rfl) (by decide) (by decide) rfl (by decide) ?_
          refine mm_if_neN (tgt := 147) rfl (by decide) (ed_b31 _) (fun h141 => ?_) (fun h141 => ?_)
          · refine mm_iincN rfl rfl (mm_inc1 _) (by decide) ?_
            refine mm_goto (tgt := 82) rfl (by decide) ?_
            exact lR_bindF hG hc hc2 hS k (i + 1) _ _ (by omega) (by omega) (by omega) ⟨j, by
              rcases Nat.lt_or_eq_of_le hj1 with e | e
              · exact e
              · subst e
                exact absurd hj3 (by omega), hj2, hj3, hj4⟩
          · refine mm_iincN rfl rfl (mm_inc1 _) (by decide) ?_
            refine mm_iincN rfl rfl (mm_inc1 _) (by decide) ?_
            refine mm_goto (tgt := 82) rfl (by decide) ?_
            exact lR_bindF hG hc hc2 hS k (i + 1) _ _ (by omega) (by omega) (by omega) ⟨j, by
              rcases Nat.lt_or_eq_of_le hj1 with e | e
              · exact e
              · subst e
                exact absurd hj3 (by omega), hj2, hj3, hj4⟩
      · refine mm_aload_n rfl rfl ?_
        refine mm_iload rfl rfl ?_
        refine mm_iload rfl rfl ?_
        refine mm_iload_n rfl rfl ?_
        refine mm_iload_n rfl rfl ?_
        refine mm_iload_n rfl rfl ?_
        refine mm_isV5 (M2 := qR_begins) wd_619 qR_begins_k (by decide) (sR_begins hG (by omega) (by omega)) rfl (by decide) (Nat.le_of_ble_eq_true rfl) (by decide) (by decide) rfl (by decide) ?_
        refine mm_if_eqN (tgt := 123) rfl (by decide) (ed_b31 _) (fun h117 => ?_) (fun h117 => ?_)
        · refine mm_iload rfl rfl ?_
          refine mm_iload rfl rfl ?_
          refine mm_icmp_ltN (tgt := 144) rfl (by decide) (by omega) (by omega) (fun h127 => ?_) (fun h127 => ?_)
          · refine mm_iincN rfl rfl (mm_inc1 _) (by decide) ?_
            refine mm_iincN rfl rfl (mm_inc1 _) (by decide) ?_
            refine mm_goto (tgt := 82) rfl (by decide) ?_
            exact lR_bindF hG hc hc2 hS k (i + 1) _ _ (by omega) (by omega) (by omega) ⟨j, by
              rcases Nat.lt_or_eq_of_le hj1 with e | e
              · exact e
              · subst e
                exact absurd hj4 (by rw [ed_beq h117]; decide), hj2, hj3, hj4⟩
          · exact absurd h127 (by omega)
        · refine mm_bipush (v := -3) rfl (by decide) ?_
          refine mm_ireturn rfl rfl rfl (by decide) (by decide) ?_
          exact ⟨rfl, rfl, rfl, rfl⟩
set_option maxRecDepth 100000 in
set_option maxHeartbeats 4000000 in
theorem lR_bindN {E : mm_E} {G : mm_G} {J : mm_J} (hG : mm_GI G) {c S : Nat} {f s t num : Int32} (hc : J 69 27 = nI c) (hc2 : c ≤ 24) (hS : S ≤ 3) {F : mm_F} (hno : ∀ j, j < c → ed_sz (ed_e J j) < S → ed_bg (ed_sz (ed_e J j)) f s t (ed_e J j) = false) (kk : ∀ z, mm_Go E qR_bind 153 [some (.ref 69), some (.int f), some (.int s), some (.int t), some (.int num), some (.int (nI S)), some (.int (nI ((ed_LM J c).filter (ed_kR S false f s t)).length)), some (.int (nI c)), z] [] 86 J G 0 0 F) : ∀ (k i : Nat) (z : Option Value), c - i = k → i ≤ c → mm_Go E qR_bind 82 [some (.ref 69), some (.int f), some (.int s), some (.int t), some (.int num), some (.int (nI S)), some (.int (nI ((ed_LM J i).filter (ed_kR S false f s t)).length)), some (.int (nI i)), z] [] 86 J G 0 0 F
  | 0, i, z, hk, hi => by
    refine mm_iload rfl rfl ?_
    refine mm_aload_n rfl rfl ?_
    refine mm_getI (x := nI c) rfl rfl rfl (by decide) rfl hc ?_
    refine mm_icmp_geN (tgt := 153) rfl (by decide) (by omega) (by omega) (fun h88 => ?_) (fun h88 => ?_)
    · obtain rfl : c = i := by omega
      exact kk z
    · exact absurd h88 (by omega)
  | k + 1, i, z, hk, hi => by
    have hsz := ed_sz_le (ed_e J i)
    have hol := List.length_filter_le (ed_kR S false f s t) (ed_LM J i)
    rw [ed_LS_l] at hol
    refine mm_iload rfl rfl ?_
    refine mm_aload_n rfl rfl ?_
    refine mm_getI (x := nI c) rfl rfl rfl (by decide) rfl hc ?_
    refine mm_icmp_geN (tgt := 153) rfl (by decide) (by omega) (by omega) (fun h88 => ?_) (fun h88 => ?_)
    · exact absurd h88 (by omega)
    · refine mm_aload_n rfl rfl ?_
      refine mm_iload rfl rfl ?_
      refine mm_isV1 (M2 := qR_size) wd_615 qR_size_k (by decide) (sR_size hG (by omega)) rfl (by decide) (Nat.le_of_ble_eq_true rfl) (by decide) (by decide) rfl (by decide) ?_
      refine mm_istore rfl (by decide) ?_
      refine mm_iload rfl rfl ?_
      refine mm_iload rfl rfl ?_
      refine mm_icmp_geN (tgt := 123) rfl (by decide) (by omega) (by omega) (fun h103 => ?_) (fun h103 => ?_)
      · refine mm_iload rfl rfl ?_
        refine mm_iload rfl rfl ?_
        refine mm_icmp_ltN (tgt := 144) rfl (by decide) (by omega) (by omega) (fun h127 => ?_) (fun h127 => ?_)
        · exact absurd h127 (by omega)
        · refine mm_aload_n rfl rfl ?_
          refine mm_iload rfl rfl ?_
          refine mm_iload rfl rfl ?_
          refine mm_iload_n rfl rfl ?_
          refine mm_iload_n rfl rfl ?_
          refine mm_iload_n rfl rfl ?_
          refine mm_isV5 (M2 := qR_begins) wd_619 qR_begins_k (by decide) (sR_begins hG (by omega) (by omega)) rfl (by decide) (Nat.le_of_ble_eq_true rfl) (by decide) (by decide) rfl (by decide) ?_
          refine mm_if_neN (tgt := 147) rfl (by decide) (ed_b31 _) (fun h141 => ?_) (fun h141 => ?_)
          · refine mm_iincN rfl rfl (mm_inc1 _) (by decide) ?_
            refine mm_goto (tgt := 82) rfl (by decide) ?_
            have K := lR_bindN (E := E) hG hc hc2 hS hno kk k (i + 1) (some (.int (nI (ed_sz (ed_e J i))))) (by omega) (by omega)
            rw [ed_LM_s, List.filter_append, List.length_append, List.filter_cons_of_neg (by exact fun q => absurd (of_decide_eq_true q) (fun q => q.elim (fun q => absurd q (by omega)) (fun q => q.elim (fun q => absurd q.1 (by decide)) (fun q => by rw [ed_bne h141] at q; exact absurd q (by decide)))))] at K
            exact K
          · refine mm_iincN rfl rfl (mm_inc1 _) (by decide) ?_
            refine mm_iincN rfl rfl (mm_inc1 _) (by decide) ?_
            refine mm_goto (tgt := 82) rfl (by decide) ?_
            have K := lR_bindN (E := E) hG hc hc2 hS hno kk k (i + 1) (some (.int (nI (ed_sz (ed_e J i))))) (by omega) (by omega)
            rw [ed_LM_s, List.filter_append, List.length_append, List.filter_cons_of_pos (by exact decide_eq_true (Or.inr (Or.inr (ed_beq h141))))] at K
            exact K
      · refine mm_aload_n rfl rfl ?_
        refine mm_iload rfl rfl ?_
        refine mm_iload rfl rfl ?_
        refine mm_iload_n rfl rfl ?_
        refine mm_iload_n rfl rfl ?_
        refine mm_iload_n rfl rfl ?_
        refine mm_isV5 (M2 := qR_begins) wd_619 qR_begins_k (by decide) (sR_begins hG (by omega) (by omega)) rfl (by decide) (Nat.le_of_ble_eq_true rfl) (by decide) (by decide) rfl (by decide) ?_
        refine mm_if_eqN (tgt := 123) rfl (by decide) (ed_b31 _) (fun h117 => ?_) (fun h117 => ?_)
        · refine mm_iload rfl rfl ?_
          refine mm_iload rfl rfl ?_
          refine mm_icmp_ltN (tgt := 144) rfl (by decide) (by omega) (by omega) (fun h127 => ?_) (fun h127 => ?_)
          · refine mm_iincN rfl rfl (mm_inc1 _) (by decide) ?_
            refine mm_iincN rfl rfl (mm_inc1 _) (by decide) ?_
            refine mm_goto (tgt := 82) rfl (by decide) ?_
            have K := lR_bindN (E := E) hG hc hc2 hS hno kk k (i + 1) (some (.int (nI (ed_sz (ed_e J i))))) (by omega) (by omega)
            rw [ed_LM_s, List.filter_append, List.length_append, List.filter_cons_of_pos (by exact decide_eq_true (Or.inl h103))] at K
            exact K
          · exact absurd h127 (by omega)
        · exact absurd (hno i (by omega) h103) (by rw [ed_bne h117]; decide)
/-- the reference's bindings are a permutation of l now -/
def ed_BR (J J' : mm_J) (c' : Nat) (l : List ed_Q) : Prop := J' 69 27 = nI c' ∧ (ed_LM J' c').Perm l ∧ (∀ a k, ¬ a = 82 → ¬ a = 83 → ¬ (a = 69 ∧ k = 27) → J' a k = J a k)
set_option maxRecDepth 100000 in
set_option maxHeartbeats 400000 in
theorem lR_bind2 {E : mm_E} {G : mm_G} {J0 : mm_J} (hG : mm_GI G) {c S : Nat} {f s t num : Int32} {o : Nat} (hc2 : c ≤ 24) (hS : S ≤ 3) {F : mm_F} (kk : ∀ J c' z, c' ≤ c → ed_BR J0 J c' ((ed_LM J0 c).filter (ed_kR S (decide (num < 0)) f s t)) → mm_Go E qR_bind 237 [some (.ref 69), some (.int f), some (.int s), some (.int t), some (.int num), some (.int (nI S)), some (.int (nI o)), some (.int (-1)), z] [] 86 J G 0 0 F) : ∀ (b k : Nat) (z : Option Value) {J : mm_J}, (hcj : J 69 27 = nI (b + k)) → b + k ≤ c → b ≤ c → (∀ i, i < b → ed_e J i = ed_e J0 i) → (ed_LS J b k).Perm ((ed_LS J0 b (c - b)).filter (ed_kR S (decide (num < 0)) f s t)) → (∀ a k, ¬ a = 82 → ¬ a = 83 → ¬ (a = 69 ∧ k = 27) → J a k = J0 a k) → mm_Go E qR_bind 176 [some (.ref 69), some (.int f), some (.int s), some (.int t), some (.int num), some (.int (nI S)), some (.int (nI o)), some (.int (ed_pr b)), z] [] 86 J G 0 0 F
  | 0, k, z, J, hcj, hbk, hbc, hun, hp, hfr => by
    refine mm_iload rfl rfl ?_
    refine mm_if_lt (tgt := 237) rfl (by decide) (fun h178 => ?_) (fun h178 => ?_)
    · exact kk J k z (by omega) ⟨by rw [hcj, Nat.zero_add], by exact hp, hfr⟩
    · exact absurd (show (-1 : Int32) < 0 by decide) h178
  | b + 1, k, z, J, hcj, hbk, hbc, hun, hp, hfr => by
    have hsz := ed_sz_le (ed_e J b)
    refine mm_iload rfl rfl ?_
    refine mm_if_ltN (tgt := 237) rfl (by decide) (by omega) ?_
    refine mm_aload_n rfl rfl ?_
    refine mm_iload rfl rfl ?_
    refine mm_isV1 (M2 := qR_size) wd_615 qR_size_k (by decide) (sR_size hG (by omega)) rfl (by decide) (Nat.le_of_ble_eq_true rfl) (by decide) (by decide) rfl (by decide) ?_
    refine mm_istore rfl (by decide) ?_
    refine mm_iload rfl rfl ?_
    refine mm_iload rfl rfl ?_
    refine mm_icmp_ltN (tgt := 231) rfl (by decide) (by omega) (by omega) (fun h193 => ?_) (fun h193 => ?_)
    · refine mm_iinc (v := ed_pr b) rfl rfl (ed_pr_d b) (by decide) ?_
      refine mm_goto (tgt := 176) rfl (by decide) ?_
      exact lR_bind2 hG hc2 hS kk b (k + 1) _ (by rw [hcj]; congr 1; omega) (by omega) (by omega) (fun i hi => hun i (by omega)) (by
        rw [ed_LS_c, show c - b = (c - (b + 1)) + 1 by omega, ed_LS_c, List.filter_cons_of_pos (by rw [← hun b (by omega)]; exact decide_eq_true (Or.inl h193)), hun b (by omega)]
        exact hp.cons _) hfr
    · refine mm_iload rfl rfl ?_
      refine mm_if_ge (tgt := 208) rfl (by decide) (fun h198 => ?_) (fun h198 => ?_)
      · refine mm_aload_n rfl rfl ?_
        refine mm_iload rfl rfl ?_
        refine mm_iload rfl rfl ?_
        refine mm_iload_n rfl rfl ?_
        refine mm_iload_n rfl rfl ?_
        refine mm_iload_n rfl rfl ?_
        refine mm_isV5 (M2 := qR_begins) wd_619 qR_begins_k (by decide) (sR_begins hG (by omega) (by omega)) rfl (by decide) (Nat.le_of_ble_eq_true rfl) (by decide) (by decide) rfl (by decide) ?_
        refine mm_if_neN (tgt := 225) rfl (by decide) (ed_b31 _) (fun h219 => ?_) (fun h219 => ?_)
        · refine mm_aload_n rfl rfl ?_
          refine mm_iload rfl rfl ?_
          refine mm_isV1 (M2 := qR_dropBinding) wd_623 qR_dropBinding_k (by decide) (sR_dropBinding hG hcj (by omega) (by omega)) rfl (by decide) (Nat.le_of_ble_eq_true rfl) (by decide) (by decide) rfl (by decide) ?_
          refine mm_iinc (v := ed_pr b) rfl rfl (ed_pr_d b) (by decide) ?_
          refine mm_goto (tgt := 176) rfl (by decide) ?_
          refine lR_bind2 (J := ed_db J (b + 1 + k) b) hG hc2 hS kk b k _ (by rw [ed_db_c]; congr 1; omega) (by omega) (by omega) (fun i hi => by rw [ed_db_e (by omega) (by omega), if_neg (by omega)]; exact hun i (by omega)) ?_ (fun a j h1 h2 h3 => by rw [ed_db_o h1 h2 h3]; exact hfr a j h1 h2 h3)
          rw [show c - b = (c - (b + 1)) + 1 by omega, ed_LS_c J0, List.filter_cons_of_neg (by rw [← hun b (by omega)]; exact fun q => absurd (of_decide_eq_true q) (fun q => q.elim (fun q => absurd q (by omega)) (fun q => q.elim (fun q => absurd (of_decide_eq_true q.1) (Int32.not_lt.mpr h198)) (fun q => by rw [ed_bne h219] at q; exact absurd q (by decide)))))]
          refine List.Perm.trans ?_ hp
          cases k with
          | zero => exact List.Perm.refl _
          | succ k =>
            rw [ed_LS_c, ed_LS_s, ed_db_e (by omega) (by omega), if_pos rfl, ed_LS_e (J' := ed_db J (b + 1 + (k + 1)) b) (J := J) k (fun i h1 h2 => by rw [ed_db_e (by omega) (by omega), if_neg (by omega)]), show b + 1 + (k + 1) - 1 = b + 1 + k by omega]
            exact (List.perm_append_singleton _ _).symm
        · refine mm_goto (tgt := 231) rfl (by decide) ?_
          refine mm_iinc (v := ed_pr b) rfl rfl (ed_pr_d b) (by decide) ?_
          refine mm_goto (tgt := 176) rfl (by decide) ?_
          exact lR_bind2 hG hc2 hS kk b (k + 1) _ (by rw [hcj]; congr 1; omega) (by omega) (by omega) (fun i hi => hun i (by omega)) (by
            rw [ed_LS_c, show c - b = (c - (b + 1)) + 1 by omega, ed_LS_c, List.filter_cons_of_pos (by rw [← hun b (by omega)]; exact decide_eq_true (Or.inr (Or.inr (ed_beq h219)))), hun b (by omega)]
            exact hp.cons _) hfr
      · refine mm_iload rfl rfl ?_
        refine mm_iload rfl rfl ?_
        refine mm_icmp_gtN (tgt := 231) rfl (by decide) (by omega) (by omega) (fun h205 => ?_) (fun h205 => ?_)
        · refine mm_iinc (v := ed_pr b) rfl rfl (ed_pr_d b) (by decide) ?_
          refine mm_goto (tgt := 176) rfl (by decide) ?_
          exact lR_bind2 hG hc2 hS kk b (k + 1) _ (by rw [hcj]; congr 1; omega) (by omega) (by omega) (fun i hi => hun i (by omega)) (by
            rw [ed_LS_c, show c - b = (c - (b + 1)) + 1 by omega, ed_LS_c, List.filter_cons_of_pos (by rw [← hun b (by omega)]; exact decide_eq_true (Or.inr (Or.inl ⟨decide_eq_true (Int32.not_le.mp h198), h205⟩))), hun b (by omega)]
            exact hp.cons _) hfr
        · refine mm_aload_n rfl rfl ?_
          refine mm_iload rfl rfl ?_
          refine mm_iload rfl rfl ?_
          refine mm_iload_n rfl rfl ?_
          refine mm_iload_n rfl rfl ?_
          refine mm_iload_n rfl rfl ?_
          refine mm_isV5 (M2 := qR_begins) wd_619 qR_begins_k (by decide) (sR_begins hG (by omega) (by omega)) rfl (by decide) (Nat.le_of_ble_eq_true rfl) (by decide) (by decide) rfl (by decide) ?_
          refine mm_if_neN (tgt := 225) rfl (by decide) (ed_b31 _) (fun h219 => ?_) (fun h219 => ?_)
          · refine mm_aload_n rfl rfl ?_
            refine mm_iload rfl rfl ?_
            refine mm_isV1 (M2 := qR_dropBinding) wd_623 qR_dropBinding_k (by decide) (sR_dropBinding hG hcj (by omega) (by omega)) rfl (by decide) (Nat.le_of_ble_eq_true rfl) (by decide) (by decide) rfl (by decide) ?_
            refine mm_iinc (v := ed_pr b) rfl rfl (ed_pr_d b) (by decide) ?_
            refine mm_goto (tgt := 176) rfl (by decide) ?_
            refine lR_bind2 (J := ed_db J (b + 1 + k) b) hG hc2 hS kk b k _ (by rw [ed_db_c]; congr 1; omega) (by omega) (by omega) (fun i hi => by rw [ed_db_e (by omega) (by omega), if_neg (by omega)]; exact hun i (by omega)) ?_ (fun a j h1 h2 h3 => by rw [ed_db_o h1 h2 h3]; exact hfr a j h1 h2 h3)
            rw [show c - b = (c - (b + 1)) + 1 by omega, ed_LS_c J0, List.filter_cons_of_neg (by rw [← hun b (by omega)]; exact fun q => absurd (of_decide_eq_true q) (fun q => q.elim (fun q => absurd q (by omega)) (fun q => q.elim (fun q => absurd q.2 (by omega)) (fun q => by rw [ed_bne h219] at q; exact absurd q (by decide)))))]
            refine List.Perm.trans ?_ hp
            cases k with
            | zero => exact List.Perm.refl _
            | succ k =>
              rw [ed_LS_c, ed_LS_s, ed_db_e (by omega) (by omega), if_pos rfl, ed_LS_e (J' := ed_db J (b + 1 + (k + 1)) b) (J := J) k (fun i h1 h2 => by rw [ed_db_e (by omega) (by omega), if_neg (by omega)]), show b + 1 + (k + 1) - 1 = b + 1 + k by omega]
              exact (List.perm_append_singleton _ _).symm
          · refine mm_goto (tgt := 231) rfl (by decide) ?_
            refine mm_iinc (v := ed_pr b) rfl rfl (ed_pr_d b) (by decide) ?_
            refine mm_goto (tgt := 176) rfl (by decide) ?_
            exact lR_bind2 hG hc2 hS kk b (k + 1) _ (by rw [hcj]; congr 1; omega) (by omega) (by omega) (fun i hi => hun i (by omega)) (by
              rw [ed_LS_c, show c - b = (c - (b + 1)) + 1 by omega, ed_LS_c, List.filter_cons_of_pos (by rw [← hun b (by omega)]; exact decide_eq_true (Or.inr (Or.inr (ed_beq h219)))), hun b (by omega)]
              exact hp.cons _) hfr
def ed_okb (f s t num : Int32) : Prop := ¬ f < 0 ∧ ¬ nI 15 < f ∧ ¬ s < -1 ∧ ¬ nI 15 < s ∧ ¬ t < -1 ∧ t ≤ nI 15 ∧ (t < 0 ∨ ¬ s < 0) ∧ ¬ num < -1 ∧ num ≤ nI 21
def ed_BP (J : mm_J) (G : mm_G) (l : List ed_Q) : mm_T := fun r n J' G' => G' = G ∧ r = some (.int (nI 0)) ∧ n = 86 ∧ ∃ c', c' ≤ 24 ∧ ed_BR J J' c' l
set_option maxRecDepth 100000 in
set_option maxHeartbeats 4000000 in
theorem sR_bind0 {E : mm_E} {G : mm_G} {J : mm_J} {f s t num : Int32} (h : ¬ ed_okb f s t num) : mm_Ret E qR_bind [.ref 69, .int f, .int s, .int t, .int num] 86 J G (some (.int (-1))) 86 J G := by
  refine mm_Met.of qR_bind_ok (by decide) (mm_cats rfl) (Nat.le_of_ble_eq_true rfl) ?_
  refine mm_iload_n rfl rfl ?_
  refine mm_if_lt (tgt := 32) rfl (by decide) (fun h1 => ?_) (fun h1 => ?_)
  · refine mm_iconst (v := -1) rfl (by decide) ?_
    refine mm_ireturn rfl rfl rfl (by decide) (by decide) ?_
    exact ⟨rfl, rfl, rfl, rfl⟩
  · refine mm_iload_n rfl rfl ?_
    refine mm_bipush (v := nI 15) rfl (by decide) ?_
    refine mm_icmp_gt (tgt := 32) rfl (by decide) (fun h7 => ?_) (fun h7 => ?_)
    · refine mm_iconst (v := -1) rfl (by decide) ?_
      refine mm_ireturn rfl rfl rfl (by decide) (by decide) ?_
      exact ⟨rfl, rfl, rfl, rfl⟩
    · refine mm_iload_n rfl rfl ?_
      refine mm_iconst (v := -1) rfl (by decide) ?_
      refine mm_icmp_lt (tgt := 32) rfl (by decide) (fun h12 => ?_) (fun h12 => ?_)
      · refine mm_iconst (v := -1) rfl (by decide) ?_
        refine mm_ireturn rfl rfl rfl (by decide) (by decide) ?_
        exact ⟨rfl, rfl, rfl, rfl⟩
      · refine mm_iload_n rfl rfl ?_
        refine mm_bipush (v := nI 15) rfl (by decide) ?_
        refine mm_icmp_gt (tgt := 32) rfl (by decide) (fun h18 => ?_) (fun h18 => ?_)
        · refine mm_iconst (v := -1) rfl (by decide) ?_
          refine mm_ireturn rfl rfl rfl (by decide) (by decide) ?_
          exact ⟨rfl, rfl, rfl, rfl⟩
        · refine mm_iload_n rfl rfl ?_
          refine mm_iconst (v := -1) rfl (by decide) ?_
          refine mm_icmp_lt (tgt := 32) rfl (by decide) (fun h23 => ?_) (fun h23 => ?_)
          · refine mm_iconst (v := -1) rfl (by decide) ?_
            refine mm_ireturn rfl rfl rfl (by decide) (by decide) ?_
            exact ⟨rfl, rfl, rfl, rfl⟩
          · refine mm_iload_n rfl rfl ?_
            refine mm_bipush (v := nI 15) rfl (by decide) ?_
            refine mm_icmp_le (tgt := 34) rfl (by decide) (fun h29 => ?_) (fun h29 => ?_)
            · refine mm_iload_n rfl rfl ?_
              refine mm_if_lt (tgt := 42) rfl (by decide) (fun h35 => ?_) (fun h35 => ?_)
              · refine mm_iload rfl rfl ?_
                refine mm_iconst (v := -1) rfl (by decide) ?_
                refine mm_icmp_lt (tgt := 55) rfl (by decide) (fun h45 => ?_) (fun h45 => ?_)
                · refine mm_iconst (v := -1) rfl (by decide) ?_
                  refine mm_ireturn rfl rfl rfl (by decide) (by decide) ?_
                  exact ⟨rfl, rfl, rfl, rfl⟩
                · refine mm_iload rfl rfl ?_
                  refine mm_bipush (v := nI 21) rfl (by decide) ?_
                  refine mm_icmp_le (tgt := 57) rfl (by decide) (fun h52 => ?_) (fun h52 => ?_)
                  · exact absurd ⟨h1, h7, h12, h18, h23, h29, Or.inl h35, h45, h52⟩ h
                  · refine mm_iconst (v := -1) rfl (by decide) ?_
                    refine mm_ireturn rfl rfl rfl (by decide) (by decide) ?_
                    exact ⟨rfl, rfl, rfl, rfl⟩
              · refine mm_iload_n rfl rfl ?_
                refine mm_if_lt (tgt := 55) rfl (by decide) (fun h39 => ?_) (fun h39 => ?_)
                · refine mm_iconst (v := -1) rfl (by decide) ?_
                  refine mm_ireturn rfl rfl rfl (by decide) (by decide) ?_
                  exact ⟨rfl, rfl, rfl, rfl⟩
                · refine mm_iload rfl rfl ?_
                  refine mm_iconst (v := -1) rfl (by decide) ?_
                  refine mm_icmp_lt (tgt := 55) rfl (by decide) (fun h45 => ?_) (fun h45 => ?_)
                  · refine mm_iconst (v := -1) rfl (by decide) ?_
                    refine mm_ireturn rfl rfl rfl (by decide) (by decide) ?_
                    exact ⟨rfl, rfl, rfl, rfl⟩
                  · refine mm_iload rfl rfl ?_
                    refine mm_bipush (v := nI 21) rfl (by decide) ?_
                    refine mm_icmp_le (tgt := 57) rfl (by decide) (fun h52 => ?_) (fun h52 => ?_)
                    · exact absurd ⟨h1, h7, h12, h18, h23, h29, Or.inr h39, h45, h52⟩ h
                    · refine mm_iconst (v := -1) rfl (by decide) ?_
                      refine mm_ireturn rfl rfl rfl (by decide) (by decide) ?_
                      exact ⟨rfl, rfl, rfl, rfl⟩
            · refine mm_iconst (v := -1) rfl (by decide) ?_
              refine mm_ireturn rfl rfl rfl (by decide) (by decide) ?_
              exact ⟨rfl, rfl, rfl, rfl⟩
set_option maxRecDepth 100000 in
set_option maxHeartbeats 400000 in
theorem lR_bindH {E : mm_E} {G : mm_G} {J : mm_J} {F : mm_F} {f s t num : Int32} (hok : ed_okb f s t num) (kk : mm_Go E qR_bind 74 [some (.ref 69), some (.int f), some (.int s), some (.int t), some (.int num), none, none, none, none] [.int (nI (ed_sz (f, s, t, num)))] 86 J G 0 0 F) : mm_Go E qR_bind 0 [some (.ref 69), some (.int f), some (.int s), some (.int t), some (.int num), none, none, none, none] [] 86 J G 0 0 F := by
  obtain ⟨k1, k2, k3, k4, k5, k6, k7, k8, k9⟩ := hok
  refine mm_iload_n rfl rfl ?_
  refine mm_if_lt (tgt := 32) rfl (by decide) (fun h1 => ?_) (fun h1 => ?_)
  · exact absurd h1 k1
  · refine mm_iload_n rfl rfl ?_
    refine mm_bipush (v := nI 15) rfl (by decide) ?_
    refine mm_icmp_gt (tgt := 32) rfl (by decide) (fun h7 => ?_) (fun h7 => ?_)
    · exact absurd h7 k2
    · refine mm_iload_n rfl rfl ?_
      refine mm_iconst (v := -1) rfl (by decide) ?_
      refine mm_icmp_lt (tgt := 32) rfl (by decide) (fun h12 => ?_) (fun h12 => ?_)
      · exact absurd h12 k3
      · refine mm_iload_n rfl rfl ?_
        refine mm_bipush (v := nI 15) rfl (by decide) ?_
        refine mm_icmp_gt (tgt := 32) rfl (by decide) (fun h18 => ?_) (fun h18 => ?_)
        · exact absurd h18 k4
        · refine mm_iload_n rfl rfl ?_
          refine mm_iconst (v := -1) rfl (by decide) ?_
          refine mm_icmp_lt (tgt := 32) rfl (by decide) (fun h23 => ?_) (fun h23 => ?_)
          · exact absurd h23 k5
          · refine mm_iload_n rfl rfl ?_
            refine mm_bipush (v := nI 15) rfl (by decide) ?_
            refine mm_icmp_le (tgt := 34) rfl (by decide) (fun h29 => ?_) (fun h29 => ?_)
            · refine mm_iload_n rfl rfl ?_
              refine mm_if_lt (tgt := 42) rfl (by decide) (fun h35 => ?_) (fun h35 => ?_)
              · refine mm_iload rfl rfl ?_
                refine mm_iconst (v := -1) rfl (by decide) ?_
                refine mm_icmp_lt (tgt := 55) rfl (by decide) (fun h45 => ?_) (fun h45 => ?_)
                · exact absurd h45 k8
                · refine mm_iload rfl rfl ?_
                  refine mm_bipush (v := nI 21) rfl (by decide) ?_
                  refine mm_icmp_le (tgt := 57) rfl (by decide) (fun h52 => ?_) (fun h52 => ?_)
                  · refine mm_iload_n rfl rfl ?_
                    refine mm_if_ge (tgt := 65) rfl (by decide) (fun h58 => ?_) (fun h58 => ?_)
                    · refine mm_iload_n rfl rfl ?_
                      refine mm_if_ge (tgt := 73) rfl (by decide) (fun h66 => ?_) (fun h66 => ?_)
                      · refine mm_iconst (v := nI 3) rfl (by decide) ?_
                        rw [show ed_sz (f, s, t, num) = 3 from (if_neg (Int32.not_lt.mpr h58)).trans (if_neg (Int32.not_lt.mpr h66))] at kk
                        exact kk
                      · refine mm_iconst (v := nI 2) rfl (by decide) ?_
                        refine mm_goto (tgt := 74) rfl (by decide) ?_
                        rw [show ed_sz (f, s, t, num) = 2 from (if_neg (Int32.not_lt.mpr h58)).trans (if_pos (Int32.not_le.mp h66))] at kk
                        exact kk
                    · refine mm_iconst (v := nI 1) rfl (by decide) ?_
                      refine mm_goto (tgt := 74) rfl (by decide) ?_
                      rw [show ed_sz (f, s, t, num) = 1 from if_pos (Int32.not_le.mp h58)] at kk
                      exact kk
                  · exact absurd k9 h52
              · refine mm_iload_n rfl rfl ?_
                refine mm_if_lt (tgt := 55) rfl (by decide) (fun h39 => ?_) (fun h39 => ?_)
                · exact k7.elim (fun q => absurd q h35) (fun q => absurd h39 q)
                · refine mm_iload rfl rfl ?_
                  refine mm_iconst (v := -1) rfl (by decide) ?_
                  refine mm_icmp_lt (tgt := 55) rfl (by decide) (fun h45 => ?_) (fun h45 => ?_)
                  · exact absurd h45 k8
                  · refine mm_iload rfl rfl ?_
                    refine mm_bipush (v := nI 21) rfl (by decide) ?_
                    refine mm_icmp_le (tgt := 57) rfl (by decide) (fun h52 => ?_) (fun h52 => ?_)
                    · refine mm_iload_n rfl rfl ?_
                      refine mm_if_ge (tgt := 65) rfl (by decide) (fun h58 => ?_) (fun h58 => ?_)
                      · refine mm_iload_n rfl rfl ?_
                        refine mm_if_ge (tgt := 73) rfl (by decide) (fun h66 => ?_) (fun h66 => ?_)
                        · refine mm_iconst (v := nI 3) rfl (by decide) ?_
                          rw [show ed_sz (f, s, t, num) = 3 from (if_neg (Int32.not_lt.mpr h58)).trans (if_neg (Int32.not_lt.mpr h66))] at kk
                          exact kk
                        · refine mm_iconst (v := nI 2) rfl (by decide) ?_
                          refine mm_goto (tgt := 74) rfl (by decide) ?_
                          rw [show ed_sz (f, s, t, num) = 2 from (if_neg (Int32.not_lt.mpr h58)).trans (if_pos (Int32.not_le.mp h66))] at kk
                          exact kk
                      · refine mm_iconst (v := nI 1) rfl (by decide) ?_
                        refine mm_goto (tgt := 74) rfl (by decide) ?_
                        rw [show ed_sz (f, s, t, num) = 1 from if_pos (Int32.not_le.mp h58)] at kk
                        exact kk
                    · exact absurd k9 h52
            · exact absurd k6 h29
set_option maxRecDepth 100000 in
set_option maxHeartbeats 4000000 in
theorem sR_bindF {E : mm_E} {G : mm_G} {J : mm_J} (hG : mm_GI G) {c : Nat} {f s t num : Int32} (hc : J 69 27 = nI c) (hc2 : c ≤ 24) (hok : ed_okb f s t num) (hx : ∃ j, j < c ∧ ed_sz (ed_e J j) < (ed_sz (f, s, t, num)) ∧ ed_bg (ed_sz (ed_e J j)) f s t (ed_e J j) = true) : mm_Ret E qR_bind [.ref 69, .int f, .int s, .int t, .int num] 86 J G (some (.int (-3))) 86 J G := by
  refine mm_Met.of qR_bind_ok (by decide) (mm_cats rfl) (Nat.le_of_ble_eq_true rfl) ?_
  refine lR_bindH hok ?_
  have hS : (ed_sz (f, s, t, num)) ≤ 3 := (ed_sz_le _).2
  refine mm_istore rfl (by decide) ?_
  refine mm_iconst (v := nI 0) rfl (by decide) ?_
  refine mm_istore rfl (by decide) ?_
  refine mm_iconst (v := nI 0) rfl (by decide) ?_
  refine mm_istore rfl (by decide) ?_
  obtain ⟨j, h1, h2⟩ := hx
  exact lR_bindF hG hc hc2 hS c 0 0 none rfl (by omega) (by omega) ⟨j, by omega, h1, h2⟩
set_option maxRecDepth 100000 in
set_option maxHeartbeats 4000000 in
theorem sR_bindX {E : mm_E} {G : mm_G} {J : mm_J} (hG : mm_GI G) {c : Nat} {f s t num : Int32} (hc : J 69 27 = nI c) (hc2 : c ≤ 24) (hok : ed_okb f s t num) (hno : ∀ j, j < c → ed_sz (ed_e J j) < (ed_sz (f, s, t, num)) → ed_bg (ed_sz (ed_e J j)) f s t (ed_e J j) = false) (hnum : ¬ num < 0) (hfull : ((ed_LM J c).filter (ed_kR (ed_sz (f, s, t, num)) false f s t)).length = 24) : mm_Ret E qR_bind [.ref 69, .int f, .int s, .int t, .int num] 86 J G (some (.int (-3))) 86 J G := by
  refine mm_Met.of qR_bind_ok (by decide) (mm_cats rfl) (Nat.le_of_ble_eq_true rfl) ?_
  refine lR_bindH hok ?_
  have hS : (ed_sz (f, s, t, num)) ≤ 3 := (ed_sz_le _).2
  refine mm_istore rfl (by decide) ?_
  refine mm_iconst (v := nI 0) rfl (by decide) ?_
  refine mm_istore rfl (by decide) ?_
  refine mm_iconst (v := nI 0) rfl (by decide) ?_
  refine mm_istore rfl (by decide) ?_
  refine lR_bindN hG hc hc2 hS hno (fun z => ?_) c 0 none rfl (by omega)
  refine mm_iload rfl rfl ?_
  refine mm_if_lt (tgt := 168) rfl (by decide) (fun h155 => ?_) (fun h155 => ?_)
  · exact absurd h155 hnum
  · refine mm_iload rfl rfl ?_
    refine mm_bipush (v := nI 24) rfl (by decide) ?_
    refine mm_icmp_neN (tgt := 168) rfl (by decide) (by omega) (by omega) (fun h162 => ?_) (fun h162 => ?_)
    · exact absurd hfull h162
    · refine mm_bipush (v := -3) rfl (by decide) ?_
      refine mm_ireturn rfl rfl rfl (by decide) (by decide) ?_
      exact ⟨rfl, rfl, rfl, rfl⟩
set_option maxRecDepth 100000 in
set_option maxHeartbeats 400000 in
theorem sR_bindU {E : mm_E} {G : mm_G} {J : mm_J} (hG : mm_GI G) {c : Nat} {f s t num : Int32} (hc : J 69 27 = nI c) (hc2 : c ≤ 24) (hok : ed_okb f s t num) (hno : ∀ j, j < c → ed_sz (ed_e J j) < (ed_sz (f, s, t, num)) → ed_bg (ed_sz (ed_e J j)) f s t (ed_e J j) = false) (hnum : num < 0) : mm_Met E qR_bind [.ref 69, .int f, .int s, .int t, .int num] 86 J G (ed_BP J G ((ed_LM J c).filter (ed_kR (ed_sz (f, s, t, num)) true f s t))) := by
  refine mm_Met.of qR_bind_ok (by decide) (mm_cats rfl) (Nat.le_of_ble_eq_true rfl) ?_
  refine lR_bindH hok ?_
  have hS : (ed_sz (f, s, t, num)) ≤ 3 := (ed_sz_le _).2
  refine mm_istore rfl (by decide) ?_
  refine mm_iconst (v := nI 0) rfl (by decide) ?_
  refine mm_istore rfl (by decide) ?_
  refine mm_iconst (v := nI 0) rfl (by decide) ?_
  refine mm_istore rfl (by decide) ?_
  refine lR_bindN hG hc hc2 hS hno (fun z => ?_) c 0 none rfl (by omega)
  refine mm_iload rfl rfl ?_
  refine mm_if_lt (tgt := 168) rfl (by decide) (fun h155 => ?_) (fun h155 => ?_)
  · refine mm_aload_n rfl rfl ?_
    refine mm_getI (x := nI c) rfl rfl rfl (by decide) rfl hc ?_
    refine mm_iconst (v := nI 1) rfl (by decide) ?_
    refine mm_isub rfl ?_
    refine mm_istore rfl (by decide) ?_
    rw [ed_pr_c]
    refine lR_bind2 (J0 := J) hG hc2 hS ?_ c 0 z hc (by omega) (by omega) (fun _ _ => rfl) (by rw [Nat.sub_self]; exact List.Perm.refl _) (fun _ _ _ _ _ => rfl)
    intro J2 c2 z2 hc9 hBR
    obtain ⟨hb1, hb2, hb3⟩ := id hBR
    refine mm_iload rfl rfl ?_
    refine mm_if_ge (tgt := 244) rfl (by decide) (fun h239 => ?_) (fun h239 => ?_)
    · exact absurd hnum (Int32.not_lt.mpr h239)
    · refine mm_iconst (v := nI 0) rfl (by decide) ?_
      refine mm_ireturn rfl rfl rfl (by decide) (by decide) ?_
      exact ⟨rfl, rfl, rfl, c2, by omega, by rw [decide_eq_true hnum] at hBR; exact hBR⟩
  · exact absurd hnum h155
def ed_ap (J : mm_J) (c : Nat) (f s t num : Int32) : mm_J := mm_set (mm_set (mm_set (mm_set (mm_set J 82 (c * 3) f) 82 (c * 3 + 1) s) 82 (c * 3 + 2) t) 83 c num) 69 27 (nI (c + 1))
theorem ed_ap_o {J : mm_J} {c i : Nat} {f s t num : Int32} (hi : i < c) : ed_e (ed_ap J c f s t num) i = ed_e J i := by
  unfold ed_e ed_ap
  refine Prod.ext ?_ (Prod.ext ?_ (Prod.ext ?_ ?_)) <;> (dsimp only; rw [mm_set_o (by omega), mm_set_o (by omega), mm_set_o (by omega), mm_set_o (by omega), mm_set_o (by omega)])
theorem ed_ap_e {J : mm_J} {c : Nat} {f s t num : Int32} : ed_e (ed_ap J c f s t num) c = (f, s, t, num) := by
  unfold ed_e ed_ap
  refine Prod.ext ?_ (Prod.ext ?_ (Prod.ext ?_ ?_)) <;> dsimp only
  · rw [mm_set_o (by omega), mm_set_o (by omega), mm_set_o (by omega), mm_set_o (by omega), mm_set_i]
  · rw [mm_set_o (by omega), mm_set_o (by omega), mm_set_o (by omega), mm_set_i]
  · rw [mm_set_o (by omega), mm_set_o (by omega), mm_set_i]
  · rw [mm_set_o (by omega), mm_set_i]
theorem ed_BR.ap {J0 J : mm_J} {c : Nat} {l : List ed_Q} {f s t num : Int32} (h : ed_BR J0 J c l) : ed_BR J0 (ed_ap J c f s t num) (c + 1) (l ++ [(f, s, t, num)]) := by
  refine ⟨mm_set_i, ?_, fun a k h1 h2 h3 => ?_⟩
  · rw [ed_LM_s, ed_ap_e, show ed_LM (ed_ap J c f s t num) c = ed_LM J c from ed_LS_e c (fun i _ h => ed_ap_o (by omega))]
    exact h.2.1.append_right _
  · unfold ed_ap
    rw [mm_set_o h3, mm_set_o (by omega), mm_set_o (by omega), mm_set_o (by omega), mm_set_o (by omega)]
    exact h.2.2 a k h1 h2 h3
set_option maxRecDepth 100000 in
set_option maxHeartbeats 400000 in
theorem sR_bindB {E : mm_E} {G : mm_G} {J : mm_J} (hG : mm_GI G) {c : Nat} {f s t num : Int32} (hc : J 69 27 = nI c) (hc2 : c ≤ 24) (hok : ed_okb f s t num) (hno : ∀ j, j < c → ed_sz (ed_e J j) < (ed_sz (f, s, t, num)) → ed_bg (ed_sz (ed_e J j)) f s t (ed_e J j) = false) (hnum : ¬ num < 0) (hfull : ((ed_LM J c).filter (ed_kR (ed_sz (f, s, t, num)) false f s t)).length < 24) : mm_Met E qR_bind [.ref 69, .int f, .int s, .int t, .int num] 86 J G (ed_BP J G (((ed_LM J c).filter (ed_kR (ed_sz (f, s, t, num)) false f s t)) ++ [(f, s, t, num)])) := by
  refine mm_Met.of qR_bind_ok (by decide) (mm_cats rfl) (Nat.le_of_ble_eq_true rfl) ?_
  refine lR_bindH hok ?_
  have hS : (ed_sz (f, s, t, num)) ≤ 3 := (ed_sz_le _).2
  refine mm_istore rfl (by decide) ?_
  refine mm_iconst (v := nI 0) rfl (by decide) ?_
  refine mm_istore rfl (by decide) ?_
  refine mm_iconst (v := nI 0) rfl (by decide) ?_
  refine mm_istore rfl (by decide) ?_
  refine lR_bindN hG hc hc2 hS hno (fun z => ?_) c 0 none rfl (by omega)
  refine mm_iload rfl rfl ?_
  refine mm_if_lt (tgt := 168) rfl (by decide) (fun h155 => ?_) (fun h155 => ?_)
  · exact absurd h155 hnum
  · refine mm_iload rfl rfl ?_
    refine mm_bipush (v := nI 24) rfl (by decide) ?_
    refine mm_icmp_neN (tgt := 168) rfl (by decide) (by omega) (by omega) (fun h162 => ?_) (fun h162 => ?_)
    · refine mm_aload_n rfl rfl ?_
      refine mm_getI (x := nI c) rfl rfl rfl (by decide) rfl hc ?_
      refine mm_iconst (v := nI 1) rfl (by decide) ?_
      refine mm_isub rfl ?_
      refine mm_istore rfl (by decide) ?_
      rw [ed_pr_c]
      refine lR_bind2 (J0 := J) hG hc2 hS ?_ c 0 z hc (by omega) (by omega) (fun _ _ => rfl) (by rw [Nat.sub_self]; exact List.Perm.refl _) (fun _ _ _ _ _ => rfl)
      intro J2 c2 z2 hc9 hBR
      obtain ⟨hb1, hb2, hb3⟩ := id hBR
      have hl := hb2.length_eq
      rw [ed_LS_l, decide_eq_false hnum] at hl
      rw [decide_eq_false hnum] at hBR
      refine mm_iload rfl rfl ?_
      refine mm_if_ge (tgt := 244) rfl (by decide) (fun h239 => ?_) (fun h239 => ?_)
      · refine mm_aload_n rfl rfl ?_
        refine mm_getR rfl rfl rfl (by decide) rfl (mm_gi hG 69 25 82 (by decide)) ?_
        refine mm_aload_n rfl rfl ?_
        refine mm_getI (x := nI c2) rfl rfl rfl (by decide) rfl hb1 ?_
        refine mm_iconst (v := nI 3) rfl (by decide) ?_
        refine mm_imulN rfl ?_
        refine mm_iload_n rfl rfl ?_
        refine mm_wrN rfl (by decide) rfl (by decide) (by omega) (by decide) rfl ?_
        refine mm_aload_n rfl rfl ?_
        refine mm_getR rfl rfl rfl (by decide) rfl (mm_gi hG 69 25 82 (by decide)) ?_
        refine mm_aload_n rfl rfl ?_
        refine mm_getI (x := nI c2) rfl rfl rfl (by decide) rfl (by simp [mm_set, mm_cp, hb1]) ?_
        refine mm_iconst (v := nI 3) rfl (by decide) ?_
        refine mm_imulN rfl ?_
        refine mm_iconst (v := nI 1) rfl (by decide) ?_
        refine mm_iaddN rfl ?_
        refine mm_iload_n rfl rfl ?_
        refine mm_wrN rfl (by decide) rfl (by decide) (by omega) (by decide) rfl ?_
        refine mm_aload_n rfl rfl ?_
        refine mm_getR rfl rfl rfl (by decide) rfl (mm_gi hG 69 25 82 (by decide)) ?_
        refine mm_aload_n rfl rfl ?_
        refine mm_getI (x := nI c2) rfl rfl rfl (by decide) rfl (by simp [mm_set, mm_cp, hb1]) ?_
        refine mm_iconst (v := nI 3) rfl (by decide) ?_
        refine mm_imulN rfl ?_
        refine mm_iconst (v := nI 2) rfl (by decide) ?_
        refine mm_iaddN rfl ?_
        refine mm_iload_n rfl rfl ?_
        refine mm_wrN rfl (by decide) rfl (by decide) (by omega) (by decide) rfl ?_
        refine mm_aload_n rfl rfl ?_
        refine mm_getR rfl rfl rfl (by decide) rfl (mm_gi hG 69 26 83 (by decide)) ?_
        refine mm_aload_n rfl rfl ?_
        refine mm_getI (x := nI c2) rfl rfl rfl (by decide) rfl (by simp [mm_set, mm_cp, hb1]) ?_
        refine mm_iload rfl rfl ?_
        refine mm_wrN rfl (by decide) rfl (by decide) (by omega) (by decide) rfl ?_
        refine mm_aload_n rfl rfl ?_
        refine mm_dup rfl rfl ?_
        refine mm_getI (x := nI c2) rfl rfl rfl (by decide) rfl (by simp [mm_set, mm_cp, hb1]) ?_
        refine mm_iconst (v := nI 1) rfl (by decide) ?_
        refine mm_iaddN rfl ?_
        refine mm_putI rfl rfl rfl (by decide) rfl (Or.inl rfl) rfl rfl ?_
        refine mm_iconst (v := nI 0) rfl (by decide) ?_
        refine mm_ireturn rfl rfl rfl (by decide) (by decide) ?_
        exact ⟨rfl, rfl, rfl, c2 + 1, by omega, hBR.ap⟩
      · exact absurd (Int32.not_lt.mp hnum) h239
    · exact absurd h162 (by omega)
def ed_rv (q : Nat → Bool) (c : Nat) : Nat → Nat → Nat
  | 0, v => v
  | n + 1, v => ed_rv q c n (if q (c - (n + 1)) = true then 1 else v)
def ed_lo (J : mm_J) (K : Nat) (j : Nat) : Bool := ed_bg K (J 84 0) (J 84 1) (J 84 2) (ed_e J j) && decide (K < ed_sz (ed_e J j))
def ed_ex (J : mm_J) (K : Nat) (j : Nat) : Bool := ed_bg K (J 84 0) (J 84 1) (J 84 2) (ed_e J j) && decide (ed_sz (ed_e J j) = K)
set_option maxRecDepth 100000 in
set_option maxHeartbeats 4000000 in
theorem lR_resN {E : mm_E} {G : mm_G} {J : mm_J} (hG : mm_GI G) {c K : Nat} {key : Int32} (hc : J 69 27 = nI c) (hc2 : c ≤ 24) (hK : J 69 29 = nI K) (hK2 : K ≤ 3) (hne : ∀ j, j < c → ed_ex J K j = false) : ∀ (n i v : Nat), c - i = n → i ≤ c → v < 2 → mm_Go E qR_resolve 24 [some (.ref 69), some (.int key), some (.int (nI v)), some (.int (nI i))] [] 86 J G 0 0 (mm_Fm E qR_resolve (mm_is (some (.int (if ed_rv (ed_lo J K) c n v = 0 then -4 else nI 1000))) 86 (if ed_rv (ed_lo J K) c n v = 0 then mm_set J 69 29 (nI 0) else J) G))
  | 0, i, v, hn, hi, hv => by
    refine mm_iload_n rfl rfl ?_
    refine mm_aload_n rfl rfl ?_
    refine mm_getI (x := nI c) rfl rfl rfl (by decide) rfl hc ?_
    refine mm_icmp_geN (tgt := 112) rfl (by decide) (by omega) (by omega) (fun h29 => ?_) (fun h29 => ?_)
    · refine mm_iload_n rfl rfl ?_
      refine mm_if_eqN (tgt := 120) rfl (by decide) (by omega) (fun h113 => ?_) (fun h113 => ?_)
      · refine mm_aload_n rfl rfl ?_
        refine mm_iconst (v := nI 0) rfl (by decide) ?_
        refine mm_putI rfl rfl rfl (by decide) rfl (Or.inl rfl) rfl rfl ?_
        refine mm_bipush (v := -4) rfl (by decide) ?_
        refine mm_ireturn rfl rfl rfl (by decide) (by decide) ?_
        exact ⟨by rw [show ed_rv (ed_lo J K) c 0 v = v from rfl, if_pos h113], rfl, by rw [show ed_rv (ed_lo J K) c 0 v = v from rfl, if_pos h113], rfl⟩
      · refine mm_sipush (v := nI 1000) rfl (by decide) ?_
        refine mm_ireturn rfl rfl rfl (by decide) (by decide) ?_
        exact ⟨by rw [show ed_rv (ed_lo J K) c 0 v = v from rfl, if_neg h113], rfl, by rw [show ed_rv (ed_lo J K) c 0 v = v from rfl, if_neg h113], rfl⟩
    · exact absurd h29 (by omega)
  | n + 1, i, v, hn, hi, hv => by
    have hsz := ed_sz_le (ed_e J i)
    refine mm_iload_n rfl rfl ?_
    refine mm_aload_n rfl rfl ?_
    refine mm_getI (x := nI c) rfl rfl rfl (by decide) rfl hc ?_
    refine mm_icmp_geN (tgt := 112) rfl (by decide) (by omega) (by omega) (fun h29 => ?_) (fun h29 => ?_)
    · exact absurd h29 (by omega)
    · refine mm_aload_n rfl rfl ?_
      refine mm_iload_n rfl rfl ?_
      refine mm_aload_n rfl rfl ?_
      refine mm_getI (x := nI K) rfl rfl rfl (by decide) rfl hK ?_
      refine mm_aload_n rfl rfl ?_
      refine mm_getR rfl rfl rfl (by decide) rfl (mm_gi hG 69 28 84 (by decide)) ?_
      refine mm_iconst (v := nI 0) rfl (by decide) ?_
      refine mm_rdN rfl (by decide) rfl (by decide) (by omega) (by decide) rfl rfl ?_
      refine mm_aload_n rfl rfl ?_
      refine mm_getR rfl rfl rfl (by decide) rfl (mm_gi hG 69 28 84 (by decide)) ?_
      refine mm_iconst (v := nI 1) rfl (by decide) ?_
      refine mm_rdN rfl (by decide) rfl (by decide) (by omega) (by decide) rfl rfl ?_
      refine mm_aload_n rfl rfl ?_
      refine mm_getR rfl rfl rfl (by decide) rfl (mm_gi hG 69 28 84 (by decide)) ?_
      refine mm_iconst (v := nI 2) rfl (by decide) ?_
      refine mm_rdN rfl (by decide) rfl (by decide) (by omega) (by decide) rfl rfl ?_
      refine mm_isV5 (M2 := qR_begins) wd_619 qR_begins_k (by decide) (sR_begins hG (by omega) (by omega)) rfl (by decide) (Nat.le_of_ble_eq_true rfl) (by decide) (by decide) rfl (by decide) ?_
      refine mm_if_eqN (tgt := 106) rfl (by decide) (ed_b31 _) (fun h59 => ?_) (fun h59 => ?_)
      · refine mm_iincN rfl rfl (mm_inc1 _) (by decide) ?_
        refine mm_goto (tgt := 24) rfl (by decide) ?_
        rw [show ed_rv (ed_lo J K) c (n + 1) v = ed_rv (ed_lo J K) c n v from by rw [ed_rv, show c - (n + 1) = i by omega, if_neg (by unfold ed_lo; rw [ed_beq h59]; exact Bool.false_ne_true)]]
        exact lR_resN hG hc hc2 hK hK2 hne n (i + 1) v (by omega) (by omega) (by omega)
      · refine mm_aload_n rfl rfl ?_
        refine mm_iload_n rfl rfl ?_
        refine mm_isV1 (M2 := qR_size) wd_615 qR_size_k (by decide) (sR_size hG (by omega)) rfl (by decide) (Nat.le_of_ble_eq_true rfl) (by decide) (by decide) rfl (by decide) ?_
        refine mm_aload_n rfl rfl ?_
        refine mm_getI (x := nI K) rfl rfl rfl (by decide) rfl hK ?_
        refine mm_icmp_geN (tgt := 77) rfl (by decide) (by omega) (by omega) (fun h71 => ?_) (fun h71 => ?_)
        · refine mm_aload_n rfl rfl ?_
          refine mm_iload_n rfl rfl ?_
          refine mm_isV1 (M2 := qR_size) wd_615 qR_size_k (by decide) (sR_size hG (by omega)) rfl (by decide) (Nat.le_of_ble_eq_true rfl) (by decide) (by decide) rfl (by decide) ?_
          refine mm_aload_n rfl rfl ?_
          refine mm_getI (x := nI K) rfl rfl rfl (by decide) rfl hK ?_
          refine mm_icmp_leN (tgt := 94) rfl (by decide) (by omega) (by omega) (fun h86 => ?_) (fun h86 => ?_)
          · exact absurd (hne i (by omega)) (by unfold ed_ex; rw [ed_bne h59, decide_eq_true (show ed_sz (ed_e J i) = K by omega)]; decide)
          · refine mm_iconst (v := nI 1) rfl (by decide) ?_
            refine mm_istore_n rfl (by decide) ?_
            refine mm_goto (tgt := 106) rfl (by decide) ?_
            refine mm_iincN rfl rfl (mm_inc1 _) (by decide) ?_
            refine mm_goto (tgt := 24) rfl (by decide) ?_
            rw [show ed_rv (ed_lo J K) c (n + 1) v = ed_rv (ed_lo J K) c n 1 from by rw [ed_rv, show c - (n + 1) = i by omega, if_pos (by unfold ed_lo; rw [ed_bne h59, decide_eq_true h86]; rfl)]]
            exact lR_resN hG hc hc2 hK hK2 hne n (i + 1) 1 (by omega) (by omega) (by omega)
        · refine mm_goto (tgt := 106) rfl (by decide) ?_
          refine mm_iincN rfl rfl (mm_inc1 _) (by decide) ?_
          refine mm_goto (tgt := 24) rfl (by decide) ?_
          rw [show ed_rv (ed_lo J K) c (n + 1) v = ed_rv (ed_lo J K) c n v from by rw [ed_rv, show c - (n + 1) = i by omega, if_neg (by unfold ed_lo; rw [decide_eq_false (show ¬ K < ed_sz (ed_e J i) by omega), Bool.and_false]; decide)]]
          exact lR_resN hG hc hc2 hK hK2 hne n (i + 1) v (by omega) (by omega) (by omega)
set_option maxRecDepth 100000 in
set_option maxHeartbeats 4000000 in
theorem lR_resE {E : mm_E} {G : mm_G} {J : mm_J} (hG : mm_GI G) {c K : Nat} {key : Int32} (hc : J 69 27 = nI c) (hc2 : c ≤ 24) (hK : J 69 29 = nI K) (hK2 : K ≤ 3) {i0 : Nat} (h0 : i0 < c) (he : ed_ex J K i0 = true) (hf : ∀ j, j < i0 → ed_ex J K j = false) : ∀ (n i v : Nat), i0 - i = n → i ≤ i0 → v < 2 → mm_Go E qR_resolve 24 [some (.ref 69), some (.int key), some (.int (nI v)), some (.int (nI i))] [] 86 J G 0 0 (mm_Fm E qR_resolve (mm_is (some (.int (J 83 i0))) 86 (mm_set J 69 29 (nI 0)) G))
  | 0, i, v, hn, hi, hv => by
    have hsz := ed_sz_le (ed_e J i)
    obtain rfl : i = i0 := by omega
    unfold ed_ex at he
    simp only [Bool.and_eq_true, decide_eq_true_eq] at he
    refine mm_iload_n rfl rfl ?_
    refine mm_aload_n rfl rfl ?_
    refine mm_getI (x := nI c) rfl rfl rfl (by decide) rfl hc ?_
    refine mm_icmp_geN (tgt := 112) rfl (by decide) (by omega) (by omega) (fun h29 => ?_) (fun h29 => ?_)
    · exact absurd h29 (by omega)
    · refine mm_aload_n rfl rfl ?_
      refine mm_iload_n rfl rfl ?_
      refine mm_aload_n rfl rfl ?_
      refine mm_getI (x := nI K) rfl rfl rfl (by decide) rfl hK ?_
      refine mm_aload_n rfl rfl ?_
      refine mm_getR rfl rfl rfl (by decide) rfl (mm_gi hG 69 28 84 (by decide)) ?_
      refine mm_iconst (v := nI 0) rfl (by decide) ?_
      refine mm_rdN rfl (by decide) rfl (by decide) (by omega) (by decide) rfl rfl ?_
      refine mm_aload_n rfl rfl ?_
      refine mm_getR rfl rfl rfl (by decide) rfl (mm_gi hG 69 28 84 (by decide)) ?_
      refine mm_iconst (v := nI 1) rfl (by decide) ?_
      refine mm_rdN rfl (by decide) rfl (by decide) (by omega) (by decide) rfl rfl ?_
      refine mm_aload_n rfl rfl ?_
      refine mm_getR rfl rfl rfl (by decide) rfl (mm_gi hG 69 28 84 (by decide)) ?_
      refine mm_iconst (v := nI 2) rfl (by decide) ?_
      refine mm_rdN rfl (by decide) rfl (by decide) (by omega) (by decide) rfl rfl ?_
      refine mm_isV5 (M2 := qR_begins) wd_619 qR_begins_k (by decide) (sR_begins hG (by omega) (by omega)) rfl (by decide) (Nat.le_of_ble_eq_true rfl) (by decide) (by decide) rfl (by decide) ?_
      refine mm_if_eqN (tgt := 106) rfl (by decide) (ed_b31 _) (fun h59 => ?_) (fun h59 => ?_)
      · exact absurd (ed_beq h59) (by rw [he.1]; decide)
      · refine mm_aload_n rfl rfl ?_
        refine mm_iload_n rfl rfl ?_
        refine mm_isV1 (M2 := qR_size) wd_615 qR_size_k (by decide) (sR_size hG (by omega)) rfl (by decide) (Nat.le_of_ble_eq_true rfl) (by decide) (by decide) rfl (by decide) ?_
        refine mm_aload_n rfl rfl ?_
        refine mm_getI (x := nI K) rfl rfl rfl (by decide) rfl hK ?_
        refine mm_icmp_geN (tgt := 77) rfl (by decide) (by omega) (by omega) (fun h71 => ?_) (fun h71 => ?_)
        · refine mm_aload_n rfl rfl ?_
          refine mm_iload_n rfl rfl ?_
          refine mm_isV1 (M2 := qR_size) wd_615 qR_size_k (by decide) (sR_size hG (by omega)) rfl (by decide) (Nat.le_of_ble_eq_true rfl) (by decide) (by decide) rfl (by decide) ?_
          refine mm_aload_n rfl rfl ?_
          refine mm_getI (x := nI K) rfl rfl rfl (by decide) rfl hK ?_
          refine mm_icmp_leN (tgt := 94) rfl (by decide) (by omega) (by omega) (fun h86 => ?_) (fun h86 => ?_)
          · refine mm_aload_n rfl rfl ?_
            refine mm_iconst (v := nI 0) rfl (by decide) ?_
            refine mm_putI rfl rfl rfl (by decide) rfl (Or.inl rfl) rfl rfl ?_
            refine mm_aload_n rfl rfl ?_
            refine mm_getR rfl rfl rfl (by decide) rfl (mm_gi hG 69 26 83 (by decide)) ?_
            refine mm_iload_n rfl rfl ?_
            refine mm_rdN (x := J 83 i) rfl (by decide) rfl (by decide) (by omega) (by decide) rfl (by simp [mm_set]) ?_
            refine mm_ireturn rfl rfl rfl (by decide) (by decide) ?_
            exact ⟨rfl, rfl, rfl, rfl⟩
          · exact absurd h86 (by omega)
        · exact absurd h71 (by omega)
  | n + 1, i, v, hn, hi, hv => by
    have hsz := ed_sz_le (ed_e J i)
    refine mm_iload_n rfl rfl ?_
    refine mm_aload_n rfl rfl ?_
    refine mm_getI (x := nI c) rfl rfl rfl (by decide) rfl hc ?_
    refine mm_icmp_geN (tgt := 112) rfl (by decide) (by omega) (by omega) (fun h29 => ?_) (fun h29 => ?_)
    · exact absurd h29 (by omega)
    · refine mm_aload_n rfl rfl ?_
      refine mm_iload_n rfl rfl ?_
      refine mm_aload_n rfl rfl ?_
      refine mm_getI (x := nI K) rfl rfl rfl (by decide) rfl hK ?_
      refine mm_aload_n rfl rfl ?_
      refine mm_getR rfl rfl rfl (by decide) rfl (mm_gi hG 69 28 84 (by decide)) ?_
      refine mm_iconst (v := nI 0) rfl (by decide) ?_
      refine mm_rdN rfl (by decide) rfl (by decide) (by omega) (by decide) rfl rfl ?_
      refine mm_aload_n rfl rfl ?_
      refine mm_getR rfl rfl rfl (by decide) rfl (mm_gi hG 69 28 84 (by decide)) ?_
      refine mm_iconst (v := nI 1) rfl (by decide) ?_
      refine mm_rdN rfl (by decide) rfl (by decide) (by omega) (by decide) rfl rfl ?_
      refine mm_aload_n rfl rfl ?_
      refine mm_getR rfl rfl rfl (by decide) rfl (mm_gi hG 69 28 84 (by decide)) ?_
      refine mm_iconst (v := nI 2) rfl (by decide) ?_
      refine mm_rdN rfl (by decide) rfl (by decide) (by omega) (by decide) rfl rfl ?_
      refine mm_isV5 (M2 := qR_begins) wd_619 qR_begins_k (by decide) (sR_begins hG (by omega) (by omega)) rfl (by decide) (Nat.le_of_ble_eq_true rfl) (by decide) (by decide) rfl (by decide) ?_
      refine mm_if_eqN (tgt := 106) rfl (by decide) (ed_b31 _) (fun h59 => ?_) (fun h59 => ?_)
      · refine mm_iincN rfl rfl (mm_inc1 _) (by decide) ?_
        refine mm_goto (tgt := 24) rfl (by decide) ?_
        exact lR_resE hG hc hc2 hK hK2 h0 he hf n (i + 1) _ (by omega) (by omega) (by omega)
      · refine mm_aload_n rfl rfl ?_
        refine mm_iload_n rfl rfl ?_
        refine mm_isV1 (M2 := qR_size) wd_615 qR_size_k (by decide) (sR_size hG (by omega)) rfl (by decide) (Nat.le_of_ble_eq_true rfl) (by decide) (by decide) rfl (by decide) ?_
        refine mm_aload_n rfl rfl ?_
        refine mm_getI (x := nI K) rfl rfl rfl (by decide) rfl hK ?_
        refine mm_icmp_geN (tgt := 77) rfl (by decide) (by omega) (by omega) (fun h71 => ?_) (fun h71 => ?_)
        · refine mm_aload_n rfl rfl ?_
          refine mm_iload_n rfl rfl ?_
          refine mm_isV1 (M2 := qR_size) wd_615 qR_size_k (by decide) (sR_size hG (by omega)) rfl (by decide) (Nat.le_of_ble_eq_true rfl) (by decide) (by decide) rfl (by decide) ?_
          refine mm_aload_n rfl rfl ?_
          refine mm_getI (x := nI K) rfl rfl rfl (by decide) rfl hK ?_
          refine mm_icmp_leN (tgt := 94) rfl (by decide) (by omega) (by omega) (fun h86 => ?_) (fun h86 => ?_)
          · exact absurd (hf i (by omega)) (by unfold ed_ex; rw [ed_bne h59, decide_eq_true (show ed_sz (ed_e J i) = K by omega)]; decide)
          · refine mm_iconst (v := nI 1) rfl (by decide) ?_
            refine mm_istore_n rfl (by decide) ?_
            refine mm_goto (tgt := 106) rfl (by decide) ?_
            refine mm_iincN rfl rfl (mm_inc1 _) (by decide) ?_
            refine mm_goto (tgt := 24) rfl (by decide) ?_
            exact lR_resE hG hc hc2 hK hK2 h0 he hf n (i + 1) _ (by omega) (by omega) (by omega)
        · refine mm_goto (tgt := 106) rfl (by decide) ?_
          refine mm_iincN rfl rfl (mm_inc1 _) (by decide) ?_
          refine mm_goto (tgt := 24) rfl (by decide) ?_
          exact lR_resE hG hc hc2 hK hK2 h0 he hf n (i + 1) _ (by omega) (by omega) (by omega)
def ed_pu (J : mm_J) (d : Nat) (key : Int32) : mm_J := mm_set (mm_set J 84 d key) 69 29 (nI (d + 1))
set_option maxRecDepth 100000 in
set_option maxHeartbeats 4000000 in
theorem sR_resolveN {E : mm_E} {G : mm_G} {J : mm_J} (hG : mm_GI G) {c d : Nat} {key : Int32} (hc : J 69 27 = nI c) (hc2 : c ≤ 24) (hd : J 69 29 = nI d) (hd2 : d ≤ 2) (hne : ∀ j, j < c → ed_ex (ed_pu J d key) (d + 1) j = false) : mm_Ret E qR_resolve [.ref 69, .int key] 86 J G (some (.int (if ed_rv (ed_lo (ed_pu J d key) (d + 1)) c c 0 = 0 then -4 else nI 1000))) 86 (if ed_rv (ed_lo (ed_pu J d key) (d + 1)) c c 0 = 0 then mm_set (ed_pu J d key) 69 29 (nI 0) else ed_pu J d key) G := by
  refine mm_Met.of qR_resolve_ok (by decide) (mm_cats rfl) (Nat.le_of_ble_eq_true rfl) ?_
  refine mm_aload_n rfl rfl ?_
  refine mm_getR rfl rfl rfl (by decide) rfl (mm_gi hG 69 28 84 (by decide)) ?_
  refine mm_aload_n rfl rfl ?_
  refine mm_getI (x := nI d) rfl rfl rfl (by decide) rfl hd ?_
  refine mm_iload_n rfl rfl ?_
  refine mm_wrN rfl (by decide) rfl (by decide) (by omega) (by decide) rfl ?_
  refine mm_aload_n rfl rfl ?_
  refine mm_dup rfl rfl ?_
  refine mm_getI (x := nI d) rfl rfl rfl (by decide) rfl (by simp [mm_set, hd]) ?_
  refine mm_iconst (v := nI 1) rfl (by decide) ?_
  refine mm_iaddN rfl ?_
  refine mm_putI rfl rfl rfl (by decide) rfl (Or.inl rfl) rfl rfl ?_
  refine mm_iconst (v := nI 0) rfl (by decide) ?_
  refine mm_istore_n rfl (by decide) ?_
  refine mm_iconst (v := nI 0) rfl (by decide) ?_
  refine mm_istore_n rfl (by decide) ?_
  exact lR_resN (J := ed_pu J d key) (K := d + 1) hG (by simp [ed_pu, mm_set, hc]) hc2 (by simp [ed_pu, mm_set]) (by omega) hne c 0 0 rfl (by omega) (by omega)
set_option maxRecDepth 100000 in
set_option maxHeartbeats 4000000 in
theorem sR_resolveE {E : mm_E} {G : mm_G} {J : mm_J} (hG : mm_GI G) {c d : Nat} {key : Int32} (hc : J 69 27 = nI c) (hc2 : c ≤ 24) (hd : J 69 29 = nI d) (hd2 : d ≤ 2) {i0 : Nat} (h0 : i0 < c) (he : ed_ex (ed_pu J d key) (d + 1) i0 = true) (hf : ∀ j, j < i0 → ed_ex (ed_pu J d key) (d + 1) j = false) : mm_Ret E qR_resolve [.ref 69, .int key] 86 J G (some (.int (J 83 i0))) 86 (mm_set (ed_pu J d key) 69 29 (nI 0)) G := by
  refine mm_Met.of qR_resolve_ok (by decide) (mm_cats rfl) (Nat.le_of_ble_eq_true rfl) ?_
  refine mm_aload_n rfl rfl ?_
  refine mm_getR rfl rfl rfl (by decide) rfl (mm_gi hG 69 28 84 (by decide)) ?_
  refine mm_aload_n rfl rfl ?_
  refine mm_getI (x := nI d) rfl rfl rfl (by decide) rfl hd ?_
  refine mm_iload_n rfl rfl ?_
  refine mm_wrN rfl (by decide) rfl (by decide) (by omega) (by decide) rfl ?_
  refine mm_aload_n rfl rfl ?_
  refine mm_dup rfl rfl ?_
  refine mm_getI (x := nI d) rfl rfl rfl (by decide) rfl (by simp [mm_set, hd]) ?_
  refine mm_iconst (v := nI 1) rfl (by decide) ?_
  refine mm_iaddN rfl ?_
  refine mm_putI rfl rfl rfl (by decide) rfl (Or.inl rfl) rfl rfl ?_
  refine mm_iconst (v := nI 0) rfl (by decide) ?_
  refine mm_istore_n rfl (by decide) ?_
  refine mm_iconst (v := nI 0) rfl (by decide) ?_
  refine mm_istore_n rfl (by decide) ?_
  have K := lR_resE (E := E) (key := key) (J := ed_pu J d key) (K := d + 1) hG (by simp [ed_pu, mm_set, hc]) hc2 (by simp [ed_pu, mm_set]) (by omega) h0 he hf i0 0 0 rfl (by omega) (by omega)
  rw [show ed_pu J d key 83 i0 = J 83 i0 by simp [ed_pu, mm_set]] at K
  exact K
