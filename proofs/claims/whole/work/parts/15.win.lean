/-- row and column of the place i -/
def ed_rc (f : Nat → Int32) (c : Nat) : Nat → Nat × Nat
  | 0 => (0, 0)
  | i + 1 => if (ed_rc f c i).2 + 1 = c ∨ f i = nI 10 then ((ed_rc f c i).1 + 1, 0) else ((ed_rc f c i).1, (ed_rc f c i).2 + 1)
theorem ed_rc_y {f : Nat → Int32} {c i : Nat} (h : (ed_rc f c i).2 + 1 = c ∨ f i = nI 10) : ed_rc f c (i + 1) = ((ed_rc f c i).1 + 1, 0) := by
  rw [ed_rc, if_pos h]
theorem ed_rc_n {f : Nat → Int32} {c i : Nat} (h : ¬ (ed_rc f c i).2 + 1 = c) (h2 : ¬ f i = nI 10) : ed_rc f c (i + 1) = ((ed_rc f c i).1, (ed_rc f c i).2 + 1) := by
  rw [ed_rc, if_neg (fun q => q.elim h h2)]
theorem ed_rc_le (f : Nat → Int32) (c : Nat) : ∀ i, (ed_rc f c i).1 ≤ i ∧ (ed_rc f c i).2 ≤ i
  | 0 => ⟨Nat.le_refl 0, Nat.le_refl 0⟩
  | i + 1 => by
    have := ed_rc_le f c i
    unfold ed_rc
    split
    · exact ⟨Nat.succ_le_succ this.1, Nat.zero_le _⟩
    · exact ⟨Nat.le_succ_of_le this.1, Nat.succ_le_succ this.2⟩
theorem ed_fol {f r w : Nat} (hf : f < 2 ^ 30) (hr : r < 2 ^ 29) (hw : w < 2 ^ 30) : (if nI f < nI r - nI w + nI 1 then nI r - nI w + nI 1 else nI f) = nI (max f (r + 1 - w)) := by
  have e : nI r - nI w + nI 1 = nI (r + 1) - nI w := by
    rw [← nI_add, Int32.sub_eq_add_neg, Int32.sub_eq_add_neg, Int32.add_assoc, Int32.add_assoc, Int32.add_comm (-nI w)]
  rw [e]
  by_cases h : w ≤ r + 1
  · rw [pk_sub h]
    by_cases h2 : f < r + 1 - w
    · rw [if_pos ((nI_ltI (by omega) (by omega)).mpr h2)]
      congr 1
      omega
    · rw [if_neg (fun q => h2 ((nI_ltI (by omega) (by omega)).mp q))]
      congr 1
      omega
  · rw [if_neg (fun q => by
      rw [Int32.lt_iff_toInt_lt, pk_sub_toInt (by omega) hw, nI_toInt (by omega)] at q
      omega)]
    congr 1
    omega
/-- the code shown at row sr, column sc, among the places from i on -/
def ed_ca (f : Nat → Int32) (c sr sc : Nat) : Nat → Nat → Int32
  | 0, _ => nI 0
  | k + 1, i => if (ed_rc f c i).1 = sr ∧ (ed_rc f c i).2 = sc then (if f i = nI 10 then nI 0 else f i) else ed_ca f c sr sc k (i + 1)
def ed_sp (r : Nat) : Nat := if r = 0 then 4913 else if r % 289 = 0 then 289 else if r % 17 = 0 then 17 else 1
def ed_lg (r b : Nat) : Bool := decide (b < r ∧ r < b + ed_sp b)
theorem ed_sp_le (r : Nat) : ed_sp r ≤ 4913 ∧ 1 ≤ ed_sp r := by
  unfold ed_sp
  (repeat' split) <;> omega
theorem mm_set_set (J : mm_J) (a k : Nat) (x y : Int32) : mm_set (mm_set J a k x) a k y = mm_set J a k y := by
  funext i j
  unfold mm_set
  split <;> rfl
set_option maxRecDepth 100000 in
set_option maxHeartbeats 4000000 in
theorem sN_resize0 {E : mm_E} {G : mm_G} {J : mm_J} {c r : Int32} (h : ¬ (nI 4 ≤ c ∧ c ≤ nI 20 ∧ nI 2 ≤ r ∧ r ≤ nI 6)) : mm_Ret E qN_resize [.ref 66, .int c, .int r] 86 J G (some (.int (-1))) 86 J G := by
  refine mm_Met.of qN_resize_ok (by decide) (mm_cats rfl) (Nat.le_of_ble_eq_true rfl) ?_
  refine mm_iload_n rfl rfl ?_
  refine mm_iconst (v := nI 4) rfl (by decide) ?_
  refine mm_icmp_lt (tgt := 22) rfl (by decide) (fun h2 => ?_) (fun h2 => ?_)
  · refine mm_iconst (v := -1) rfl (by decide) ?_
    refine mm_ireturn rfl rfl rfl (by decide) (by decide) ?_
    exact ⟨rfl, rfl, rfl, rfl⟩
  · refine mm_iload_n rfl rfl ?_
    refine mm_bipush (v := nI 20) rfl (by decide) ?_
    refine mm_icmp_gt (tgt := 22) rfl (by decide) (fun h8 => ?_) (fun h8 => ?_)
    · refine mm_iconst (v := -1) rfl (by decide) ?_
      refine mm_ireturn rfl rfl rfl (by decide) (by decide) ?_
      exact ⟨rfl, rfl, rfl, rfl⟩
    · refine mm_iload_n rfl rfl ?_
      refine mm_iconst (v := nI 2) rfl (by decide) ?_
      refine mm_icmp_lt (tgt := 22) rfl (by decide) (fun h13 => ?_) (fun h13 => ?_)
      · refine mm_iconst (v := -1) rfl (by decide) ?_
        refine mm_ireturn rfl rfl rfl (by decide) (by decide) ?_
        exact ⟨rfl, rfl, rfl, rfl⟩
      · refine mm_iload_n rfl rfl ?_
        refine mm_bipush (v := nI 6) rfl (by decide) ?_
        refine mm_icmp_le (tgt := 24) rfl (by decide) (fun h19 => ?_) (fun h19 => ?_)
        · exact absurd ⟨Int32.not_lt.mp h2, Int32.not_lt.mp h8, Int32.not_lt.mp h13, h19⟩ h
        · refine mm_iconst (v := -1) rfl (by decide) ?_
          refine mm_ireturn rfl rfl rfl (by decide) (by decide) ?_
          exact ⟨rfl, rfl, rfl, rfl⟩
set_option maxRecDepth 100000 in
set_option maxHeartbeats 4000000 in
theorem sN_resize1 {E : mm_E} {G : mm_G} {J : mm_J} {c r : Nat} (h1 : 4 ≤ c) (h2 : c ≤ 20) (h3 : 2 ≤ r) (h4 : r ≤ 6) : mm_Ret E qN_resize [.ref 66, .int (nI c), .int (nI r)] 86 J G (some (.int (nI 0))) 86 (mm_set (mm_set (mm_set J 66 0 (nI c)) 66 1 (nI r)) 66 2 (nI 0)) G := by
  refine mm_Met.of qN_resize_ok (by decide) (mm_cats rfl) (Nat.le_of_ble_eq_true rfl) ?_
  refine mm_iload_n rfl rfl ?_
  refine mm_iconst (v := nI 4) rfl (by decide) ?_
  refine mm_icmp_ltN (tgt := 22) rfl (by decide) (by omega) (by omega) (fun q2 => ?_) (fun q2 => ?_)
  · exact absurd q2 (by omega)
  · refine mm_iload_n rfl rfl ?_
    refine mm_bipush (v := nI 20) rfl (by decide) ?_
    refine mm_icmp_gtN (tgt := 22) rfl (by decide) (by omega) (by omega) (fun h8 => ?_) (fun h8 => ?_)
    · exact absurd h8 (by omega)
    · refine mm_iload_n rfl rfl ?_
      refine mm_iconst (v := nI 2) rfl (by decide) ?_
      refine mm_icmp_ltN (tgt := 22) rfl (by decide) (by omega) (by omega) (fun h13 => ?_) (fun h13 => ?_)
      · exact absurd h13 (by omega)
      · refine mm_iload_n rfl rfl ?_
        refine mm_bipush (v := nI 6) rfl (by decide) ?_
        refine mm_icmp_leN (tgt := 24) rfl (by decide) (by omega) (by omega) (fun h19 => ?_) (fun h19 => ?_)
        · refine mm_aload_n rfl rfl ?_
          refine mm_iload_n rfl rfl ?_
          refine mm_putI rfl rfl rfl (by decide) rfl (Or.inl rfl) rfl rfl ?_
          refine mm_aload_n rfl rfl ?_
          refine mm_iload_n rfl rfl ?_
          refine mm_putI rfl rfl rfl (by decide) rfl (Or.inl rfl) rfl rfl ?_
          refine mm_aload_n rfl rfl ?_
          refine mm_iconst (v := nI 0) rfl (by decide) ?_
          refine mm_putI rfl rfl rfl (by decide) rfl (Or.inl rfl) rfl rfl ?_
          refine mm_iconst (v := nI 0) rfl (by decide) ?_
          refine mm_ireturn rfl rfl rfl (by decide) (by decide) ?_
          exact ⟨rfl, rfl, rfl, rfl⟩
        · exact absurd h19 (by omega)
set_option maxRecDepth 100000 in
set_option maxHeartbeats 4000000 in
theorem lN_rowOf {E : mm_E} {G : mm_G} {J : mm_J} (hG : mm_GI G) {n q c : Nat} (hn : J 2 1 = nI n) (hn2 : n ≤ 100) (hq : q ≤ n) (hc : J 66 0 = nI c) (hc2 : c ≤ 20) : ∀ (k i : Nat), q - i = k → i ≤ q → mm_Go E qN_rowOf 8 [some (.ref 66), some (.ref 2), some (.int (nI q)), some (.int (nI (ed_rc (J 3) c i).1)), some (.int (nI (ed_rc (J 3) c i).2)), some (.int (nI i))] [] 86 J G 0 0 (mm_Fm E qN_rowOf (mm_is (some (.int (nI (ed_rc (J 3) c q).1))) 86 J G))
  | 0, i, hk, hi => by
    have hrc := ed_rc_le (J 3) c i
    refine mm_iload rfl rfl ?_
    refine mm_iload_n rfl rfl ?_
    refine mm_icmp_geN (tgt := 59) rfl (by decide) (by omega) (by omega) (fun h11 => ?_) (fun h11 => ?_)
    · refine mm_iload_n rfl rfl ?_
      refine mm_ireturn rfl rfl rfl (by decide) (by decide) ?_
      exact ⟨by rw [show i = q by omega], rfl, rfl, rfl⟩
    · exact absurd h11 (by omega)
  | k + 1, i, hk, hi => by
    have hrc := ed_rc_le (J 3) c i
    refine mm_iload rfl rfl ?_
    refine mm_iload_n rfl rfl ?_
    refine mm_icmp_geN (tgt := 59) rfl (by decide) (by omega) (by omega) (fun h11 => ?_) (fun h11 => ?_)
    · exact absurd h11 (by omega)
    · refine mm_iload rfl rfl ?_
      refine mm_aload_n rfl rfl ?_
      refine mm_getI (x := nI n) rfl rfl rfl (by decide) rfl hn ?_
      refine mm_icmp_geN (tgt := 59) rfl (by decide) (by omega) (by omega) (fun h20 => ?_) (fun h20 => ?_)
      · exact absurd h20 (by omega)
      · refine mm_iincN rfl rfl (mm_inc1 _) (by decide) ?_
        refine mm_iload rfl rfl ?_
        refine mm_aload_n rfl rfl ?_
        refine mm_getI (x := nI c) rfl rfl rfl (by decide) rfl hc ?_
        refine mm_icmp_eqN (tgt := 47) rfl (by decide) (by omega) (by omega) (fun h32 => ?_) (fun h32 => ?_)
        · refine mm_iincN rfl rfl (mm_inc1 _) (by decide) ?_
          refine mm_iconst (v := nI 0) rfl (by decide) ?_
          refine mm_istore rfl (by decide) ?_
          refine mm_iincN rfl rfl (mm_inc1 _) (by decide) ?_
          refine mm_goto (tgt := 8) rfl (by decide) ?_
          have K := lN_rowOf (E := E) hG hn hn2 hq hc hc2 k (i + 1) (by omega) (by omega)
          rw [ed_rc_y (Or.inl h32)] at K
          exact K
        · refine mm_aload_n rfl rfl ?_
          refine mm_getR rfl rfl rfl (by decide) rfl (mm_gi hG 2 0 3 (by decide)) ?_
          refine mm_iload rfl rfl ?_
          refine mm_rdN rfl (by decide) rfl (by decide) (by omega) (by decide) rfl rfl ?_
          refine mm_bipush (v := nI 10) rfl (by decide) ?_
          refine mm_icmp_ne (tgt := 53) rfl (by decide) (fun h44 => ?_) (fun h44 => ?_)
          · refine mm_iincN rfl rfl (mm_inc1 _) (by decide) ?_
            refine mm_goto (tgt := 8) rfl (by decide) ?_
            have K := lN_rowOf (E := E) hG hn hn2 hq hc hc2 k (i + 1) (by omega) (by omega)
            rw [ed_rc_n h32 h44] at K
            exact K
          · refine mm_iincN rfl rfl (mm_inc1 _) (by decide) ?_
            refine mm_iconst (v := nI 0) rfl (by decide) ?_
            refine mm_istore rfl (by decide) ?_
            refine mm_iincN rfl rfl (mm_inc1 _) (by decide) ?_
            refine mm_goto (tgt := 8) rfl (by decide) ?_
            have K := lN_rowOf (E := E) hG hn hn2 hq hc hc2 k (i + 1) (by omega) (by omega)
            rw [ed_rc_y (Or.inr h44)] at K
            exact K
set_option maxRecDepth 100000 in
set_option maxHeartbeats 4000000 in
theorem sN_rowOf {E : mm_E} {G : mm_G} {J : mm_J} (hG : mm_GI G) {n q c : Nat} (hn : J 2 1 = nI n) (hn2 : n ≤ 100) (hq : q ≤ n) (hc : J 66 0 = nI c) (hc2 : c ≤ 20) : mm_Ret E qN_rowOf [.ref 66, .ref 2, .int (nI q)] 86 J G (some (.int (nI (ed_rc (J 3) c q).1))) 86 J G := by
  refine mm_Met.of qN_rowOf_ok (by decide) (mm_cats rfl) (Nat.le_of_ble_eq_true rfl) ?_
  refine mm_iconst (v := nI 0) rfl (by decide) ?_
  refine mm_istore_n rfl (by decide) ?_
  refine mm_iconst (v := nI 0) rfl (by decide) ?_
  refine mm_istore rfl (by decide) ?_
  refine mm_iconst (v := nI 0) rfl (by decide) ?_
  refine mm_istore rfl (by decide) ?_
  exact lN_rowOf hG hn hn2 hq hc hc2 q 0 rfl (by omega)
set_option maxRecDepth 100000 in
set_option maxHeartbeats 4000000 in
theorem sN_follow {E : mm_E} {G : mm_G} {J : mm_J} (hG : mm_GI G) {n q c f w : Nat} (hn : J 2 1 = nI n) (hn2 : n ≤ 100) (hq : q ≤ n) (hc : J 66 0 = nI c) (hc2 : c ≤ 20) (hp : J 1 3 = nI q) (hf : J 66 2 = nI f) (hf2 : f ≤ 200) (hw : J 66 1 = nI w) (hw2 : w ≤ 6) : mm_Ret E qN_follow [.ref 66, .ref 1] 86 J G none 86 (mm_set J 66 2 (nI (max (min f (ed_rc (J 3) c q).1) ((ed_rc (J 3) c q).1 + 1 - w)))) G := by
  refine mm_Met.of qN_follow_ok (by decide) (mm_cats rfl) (Nat.le_of_ble_eq_true rfl) ?_
  have hrc := ed_rc_le (J 3) c q
  refine mm_aload_n rfl rfl ?_
  refine mm_aload_n rfl rfl ?_
  refine mm_getR rfl rfl rfl (by decide) rfl (mm_gi hG 1 0 2 (by decide)) ?_
  refine mm_aload_n rfl rfl ?_
  refine mm_getI (x := nI q) rfl rfl rfl (by decide) rfl hp ?_
  refine mm_isV2 (M2 := qN_rowOf) wd_477 qN_rowOf_k (by decide) (sN_rowOf hG hn hn2 hq hc hc2) rfl (by decide) (Nat.le_of_ble_eq_true rfl) (by decide) (by decide) rfl (by decide) ?_
  refine mm_istore_n rfl (by decide) ?_
  refine mm_aload_n rfl rfl ?_
  refine mm_aload_n rfl rfl ?_
  refine mm_getI (x := nI f) rfl rfl rfl (by decide) rfl hf ?_
  refine mm_iload_n rfl rfl ?_
  refine mm_minN (by omega) (by omega) rfl wd_481 wd_299 wd_10 wd_300 (by decide) (Nat.le_of_ble_eq_true rfl) (by decide) (by decide) ?_
  refine mm_putI rfl rfl rfl (by decide) rfl (Or.inl rfl) rfl rfl ?_
  refine mm_aload_n rfl rfl ?_
  refine mm_aload_n rfl rfl ?_
  refine mm_getI (x := nI (min f (ed_rc (J 3) c q).1)) rfl rfl rfl (by decide) rfl (by simp [mm_set]) ?_
  refine mm_iload_n rfl rfl ?_
  refine mm_aload_n rfl rfl ?_
  refine mm_getI (x := nI w) rfl rfl rfl (by decide) rfl (by simp [mm_set, mm_cp, hw]) ?_
  refine mm_isub rfl ?_
  refine mm_iconst (v := nI 1) rfl (by decide) ?_
  refine mm_iadd rfl ?_
  refine mm_max rfl wd_482 wd_306 wd_10 wd_307 (by decide) (Nat.le_of_ble_eq_true rfl) (by decide) (by decide) ?_
  rw [ed_fol (by omega) (by omega) (by omega)]
  refine mm_putI rfl rfl rfl (by decide) rfl (Or.inl rfl) rfl rfl ?_
  refine mm_return rfl rfl (by decide) (by decide) ?_
  exact ⟨rfl, rfl, mm_set_set _ _ _ _ _, rfl⟩
set_option maxRecDepth 100000 in
set_option maxHeartbeats 4000000 in
theorem lN_codeAt {E : mm_E} {G : mm_G} {J : mm_J} (hG : mm_GI G) {n c sr sc : Nat} (hn : J 2 1 = nI n) (hn2 : n ≤ 100) (hc : J 66 0 = nI c) (hc2 : c ≤ 20) (hsr : sr ≤ 400) (hsc : sc ≤ 20) : ∀ (k i : Nat) (z : Option Value), n - i = k → i ≤ n → mm_Go E qN_codeAt 9 [some (.ref 66), some (.ref 2), some (.int (nI sr)), some (.int (nI sc)), some (.int (nI (ed_rc (J 3) c i).1)), some (.int (nI (ed_rc (J 3) c i).2)), some (.int (nI i)), z] [] 86 J G 0 0 (mm_Fm E qN_codeAt (mm_is (some (.int (ed_ca (J 3) c sr sc k i))) 86 J G))
  | 0, i, z, hk, hi => by
    refine mm_iload rfl rfl ?_
    refine mm_aload_n rfl rfl ?_
    refine mm_getI (x := nI n) rfl rfl rfl (by decide) rfl hn ?_
    refine mm_icmp_geN (tgt := 95) rfl (by decide) (by omega) (by omega) (fun h15 => ?_) (fun h15 => ?_)
    · refine mm_iconst (v := nI 0) rfl (by decide) ?_
      refine mm_ireturn rfl rfl rfl (by decide) (by decide) ?_
      exact ⟨rfl, rfl, rfl, rfl⟩
    · exact absurd h15 (by omega)
  | k + 1, i, z, hk, hi => by
    have hrc := ed_rc_le (J 3) c i
    refine mm_iload rfl rfl ?_
    refine mm_aload_n rfl rfl ?_
    refine mm_getI (x := nI n) rfl rfl rfl (by decide) rfl hn ?_
    refine mm_icmp_geN (tgt := 95) rfl (by decide) (by omega) (by omega) (fun h15 => ?_) (fun h15 => ?_)
    · exact absurd h15 (by omega)
    · refine mm_aload_n rfl rfl ?_
      refine mm_getR rfl rfl rfl (by decide) rfl (mm_gi hG 2 0 3 (by decide)) ?_
      refine mm_iload rfl rfl ?_
      refine mm_rdN rfl (by decide) rfl (by decide) (by omega) (by decide) rfl rfl ?_
      refine mm_bipush (v := nI 10) rfl (by decide) ?_
      refine mm_icmp_ne (tgt := 34) rfl (by decide) (fun h27 => ?_) (fun h27 => ?_)
      · refine mm_iconst (v := nI 0) rfl (by decide) ?_
        refine mm_istore rfl (by decide) ?_
        refine mm_iload rfl rfl ?_
        refine mm_iload_n rfl rfl ?_
        refine mm_icmp_neN (tgt := 66) rfl (by decide) (by omega) (by omega) (fun h40 => ?_) (fun h40 => ?_)
        · refine mm_iincN rfl rfl (mm_inc1 _) (by decide) ?_
          refine mm_iload rfl rfl ?_
          refine mm_aload_n rfl rfl ?_
          refine mm_getI (x := nI c) rfl rfl rfl (by decide) rfl hc ?_
          refine mm_icmp_eqN (tgt := 83) rfl (by decide) (by omega) (by omega) (fun h75 => ?_) (fun h75 => ?_)
          · refine mm_iincN rfl rfl (mm_inc1 _) (by decide) ?_
            refine mm_iconst (v := nI 0) rfl (by decide) ?_
            refine mm_istore rfl (by decide) ?_
            refine mm_iincN rfl rfl (mm_inc1 _) (by decide) ?_
            refine mm_goto (tgt := 9) rfl (by decide) ?_
            rw [show ed_ca (J 3) c sr sc (k + 1) i = ed_ca (J 3) c sr sc k (i + 1) from by rw [ed_ca, if_neg (fun q => h40 q.1)]]
            have K := lN_codeAt (E := E) hG hn hn2 hc hc2 hsr hsc k (i + 1) (some (.int (nI 0))) (by omega) (by omega)
            rw [ed_rc_y (Or.inl h75)] at K
            exact K
          · refine mm_iload rfl rfl ?_
            refine mm_if_eqN (tgt := 89) rfl (by decide) (by omega) (fun h80 => ?_) (fun h80 => ?_)
            · refine mm_iincN rfl rfl (mm_inc1 _) (by decide) ?_
              refine mm_goto (tgt := 9) rfl (by decide) ?_
              rw [show ed_ca (J 3) c sr sc (k + 1) i = ed_ca (J 3) c sr sc k (i + 1) from by rw [ed_ca, if_neg (fun q => h40 q.1)]]
              have K := lN_codeAt (E := E) hG hn hn2 hc hc2 hsr hsc k (i + 1) (some (.int (nI 0))) (by omega) (by omega)
              rw [ed_rc_n h75 h27] at K
              exact K
            · exact absurd rfl h80
        · refine mm_iload rfl rfl ?_
          refine mm_iload_n rfl rfl ?_
          refine mm_icmp_neN (tgt := 66) rfl (by decide) (by omega) (by omega) (fun h46 => ?_) (fun h46 => ?_)
          · refine mm_iincN rfl rfl (mm_inc1 _) (by decide) ?_
            refine mm_iload rfl rfl ?_
            refine mm_aload_n rfl rfl ?_
            refine mm_getI (x := nI c) rfl rfl rfl (by decide) rfl hc ?_
            refine mm_icmp_eqN (tgt := 83) rfl (by decide) (by omega) (by omega) (fun h75 => ?_) (fun h75 => ?_)
            · refine mm_iincN rfl rfl (mm_inc1 _) (by decide) ?_
              refine mm_iconst (v := nI 0) rfl (by decide) ?_
              refine mm_istore rfl (by decide) ?_
              refine mm_iincN rfl rfl (mm_inc1 _) (by decide) ?_
              refine mm_goto (tgt := 9) rfl (by decide) ?_
              rw [show ed_ca (J 3) c sr sc (k + 1) i = ed_ca (J 3) c sr sc k (i + 1) from by rw [ed_ca, if_neg (fun q => h46 q.2)]]
              have K := lN_codeAt (E := E) hG hn hn2 hc hc2 hsr hsc k (i + 1) (some (.int (nI 0))) (by omega) (by omega)
              rw [ed_rc_y (Or.inl h75)] at K
              exact K
            · refine mm_iload rfl rfl ?_
              refine mm_if_eqN (tgt := 89) rfl (by decide) (by omega) (fun h80 => ?_) (fun h80 => ?_)
              · refine mm_iincN rfl rfl (mm_inc1 _) (by decide) ?_
                refine mm_goto (tgt := 9) rfl (by decide) ?_
                rw [show ed_ca (J 3) c sr sc (k + 1) i = ed_ca (J 3) c sr sc k (i + 1) from by rw [ed_ca, if_neg (fun q => h46 q.2)]]
                have K := lN_codeAt (E := E) hG hn hn2 hc hc2 hsr hsc k (i + 1) (some (.int (nI 0))) (by omega) (by omega)
                rw [ed_rc_n h75 h27] at K
                exact K
              · exact absurd rfl h80
          · refine mm_iload rfl rfl ?_
            refine mm_if_eqN (tgt := 58) rfl (by decide) (by omega) (fun h51 => ?_) (fun h51 => ?_)
            · refine mm_aload_n rfl rfl ?_
              refine mm_getR rfl rfl rfl (by decide) rfl (mm_gi hG 2 0 3 (by decide)) ?_
              refine mm_iload rfl rfl ?_
              refine mm_rdN rfl (by decide) rfl (by decide) (by omega) (by decide) rfl rfl ?_
              refine mm_ireturn rfl rfl rfl (by decide) (by decide) ?_
              exact ⟨by rw [ed_ca, if_pos ⟨h40, h46⟩, if_neg h27], rfl, rfl, rfl⟩
            · exact absurd rfl h51
      · refine mm_iconst (v := nI 1) rfl (by decide) ?_
        refine mm_goto (tgt := 35) rfl (by decide) ?_
        refine mm_istore rfl (by decide) ?_
        refine mm_iload rfl rfl ?_
        refine mm_iload_n rfl rfl ?_
        refine mm_icmp_neN (tgt := 66) rfl (by decide) (by omega) (by omega) (fun h40 => ?_) (fun h40 => ?_)
        · refine mm_iincN rfl rfl (mm_inc1 _) (by decide) ?_
          refine mm_iload rfl rfl ?_
          refine mm_aload_n rfl rfl ?_
          refine mm_getI (x := nI c) rfl rfl rfl (by decide) rfl hc ?_
          refine mm_icmp_eqN (tgt := 83) rfl (by decide) (by omega) (by omega) (fun h75 => ?_) (fun h75 => ?_)
          · refine mm_iincN rfl rfl (mm_inc1 _) (by decide) ?_
            refine mm_iconst (v := nI 0) rfl (by decide) ?_
            refine mm_istore rfl (by decide) ?_
            refine mm_iincN rfl rfl (mm_inc1 _) (by decide) ?_
            refine mm_goto (tgt := 9) rfl (by decide) ?_
            rw [show ed_ca (J 3) c sr sc (k + 1) i = ed_ca (J 3) c sr sc k (i + 1) from by rw [ed_ca, if_neg (fun q => h40 q.1)]]
            have K := lN_codeAt (E := E) hG hn hn2 hc hc2 hsr hsc k (i + 1) (some (.int (nI 1))) (by omega) (by omega)
            rw [ed_rc_y (Or.inl h75)] at K
            exact K
          · refine mm_iload rfl rfl ?_
            refine mm_if_eqN (tgt := 89) rfl (by decide) (by omega) (fun h80 => ?_) (fun h80 => ?_)
            · exact absurd h80 (by decide)
            · refine mm_iincN rfl rfl (mm_inc1 _) (by decide) ?_
              refine mm_iconst (v := nI 0) rfl (by decide) ?_
              refine mm_istore rfl (by decide) ?_
              refine mm_iincN rfl rfl (mm_inc1 _) (by decide) ?_
              refine mm_goto (tgt := 9) rfl (by decide) ?_
              rw [show ed_ca (J 3) c sr sc (k + 1) i = ed_ca (J 3) c sr sc k (i + 1) from by rw [ed_ca, if_neg (fun q => h40 q.1)]]
              have K := lN_codeAt (E := E) hG hn hn2 hc hc2 hsr hsc k (i + 1) (some (.int (nI 1))) (by omega) (by omega)
              rw [ed_rc_y (Or.inr h27)] at K
              exact K
        · refine mm_iload rfl rfl ?_
          refine mm_iload_n rfl rfl ?_
          refine mm_icmp_neN (tgt := 66) rfl (by decide) (by omega) (by omega) (fun h46 => ?_) (fun h46 => ?_)
          · refine mm_iincN rfl rfl (mm_inc1 _) (by decide) ?_
            refine mm_iload rfl rfl ?_
            refine mm_aload_n rfl rfl ?_
            refine mm_getI (x := nI c) rfl rfl rfl (by decide) rfl hc ?_
            refine mm_icmp_eqN (tgt := 83) rfl (by decide) (by omega) (by omega) (fun h75 => ?_) (fun h75 => ?_)
            · refine mm_iincN rfl rfl (mm_inc1 _) (by decide) ?_
              refine mm_iconst (v := nI 0) rfl (by decide) ?_
              refine mm_istore rfl (by decide) ?_
              refine mm_iincN rfl rfl (mm_inc1 _) (by decide) ?_
              refine mm_goto (tgt := 9) rfl (by decide) ?_
              rw [show ed_ca (J 3) c sr sc (k + 1) i = ed_ca (J 3) c sr sc k (i + 1) from by rw [ed_ca, if_neg (fun q => h46 q.2)]]
              have K := lN_codeAt (E := E) hG hn hn2 hc hc2 hsr hsc k (i + 1) (some (.int (nI 1))) (by omega) (by omega)
              rw [ed_rc_y (Or.inl h75)] at K
              exact K
            · refine mm_iload rfl rfl ?_
              refine mm_if_eqN (tgt := 89) rfl (by decide) (by omega) (fun h80 => ?_) (fun h80 => ?_)
              · exact absurd h80 (by decide)
              · refine mm_iincN rfl rfl (mm_inc1 _) (by decide) ?_
                refine mm_iconst (v := nI 0) rfl (by decide) ?_
                refine mm_istore rfl (by decide) ?_
                refine mm_iincN rfl rfl (mm_inc1 _) (by decide) ?_
                refine mm_goto (tgt := 9) rfl (by decide) ?_
                rw [show ed_ca (J 3) c sr sc (k + 1) i = ed_ca (J 3) c sr sc k (i + 1) from by rw [ed_ca, if_neg (fun q => h46 q.2)]]
                have K := lN_codeAt (E := E) hG hn hn2 hc hc2 hsr hsc k (i + 1) (some (.int (nI 1))) (by omega) (by omega)
                rw [ed_rc_y (Or.inr h27)] at K
                exact K
          · refine mm_iload rfl rfl ?_
            refine mm_if_eqN (tgt := 58) rfl (by decide) (by omega) (fun h51 => ?_) (fun h51 => ?_)
            · exact absurd h51 (by decide)
            · refine mm_iconst (v := nI 0) rfl (by decide) ?_
              refine mm_goto (tgt := 65) rfl (by decide) ?_
              refine mm_ireturn rfl rfl rfl (by decide) (by decide) ?_
              exact ⟨by rw [ed_ca, if_pos ⟨h40, h46⟩, if_pos h27], rfl, rfl, rfl⟩
set_option maxRecDepth 100000 in
set_option maxHeartbeats 4000000 in
theorem sN_codeAt {E : mm_E} {G : mm_G} {J : mm_J} (hG : mm_GI G) {n c sr sc : Nat} (hn : J 2 1 = nI n) (hn2 : n ≤ 100) (hc : J 66 0 = nI c) (hc2 : c ≤ 20) (hsr : sr ≤ 400) (hsc : sc ≤ 20) : mm_Ret E qN_codeAt [.ref 66, .ref 2, .int (nI sr), .int (nI sc)] 86 J G (some (.int (ed_ca (J 3) c sr sc n 0))) 86 J G := by
  refine mm_Met.of qN_codeAt_ok (by decide) (mm_cats rfl) (Nat.le_of_ble_eq_true rfl) ?_
  refine mm_iconst (v := nI 0) rfl (by decide) ?_
  refine mm_istore rfl (by decide) ?_
  refine mm_iconst (v := nI 0) rfl (by decide) ?_
  refine mm_istore rfl (by decide) ?_
  refine mm_iconst (v := nI 0) rfl (by decide) ?_
  refine mm_istore rfl (by decide) ?_
  exact lN_codeAt hG hn hn2 hc hc2 hsr hsc n 0 none rfl (by omega)
set_option maxRecDepth 100000 in
set_option maxHeartbeats 4000000 in
theorem sY_span {E : mm_E} {G : mm_G} {J : mm_J} {r : Nat} (hr : r < 2 ^ 30) : mm_Ret E qY_span [.int (nI r)] 86 J G (some (.int (nI (ed_sp r)))) 86 J G := by
  refine mm_Met.of qY_span_ok (by decide) (mm_cats rfl) (Nat.le_of_ble_eq_true rfl) ?_
  refine mm_iload_n rfl rfl ?_
  refine mm_if_neN (tgt := 8) rfl (by decide) (by omega) (fun h1 => ?_) (fun h1 => ?_)
  · refine mm_iload_n rfl rfl ?_
    refine mm_sipush (v := nI 289) rfl (by decide) ?_
    refine mm_iremN rfl (by omega) (by omega) (by omega) ?_
    refine mm_if_neN (tgt := 20) rfl (by decide) (by omega) (fun h13 => ?_) (fun h13 => ?_)
    · refine mm_iload_n rfl rfl ?_
      refine mm_bipush (v := nI 17) rfl (by decide) ?_
      refine mm_iremN rfl (by omega) (by omega) (by omega) ?_
      refine mm_if_neN (tgt := 32) rfl (by decide) (by omega) (fun h24 => ?_) (fun h24 => ?_)
      · refine mm_iconst (v := nI 1) rfl (by decide) ?_
        refine mm_ireturn rfl rfl rfl (by decide) (by decide) ?_
        exact ⟨by rw [show ed_sp r = 1 from by unfold ed_sp; (repeat' split) <;> omega], rfl, rfl, rfl⟩
      · refine mm_bipush (v := nI 17) rfl (by decide) ?_
        refine mm_goto (tgt := 33) rfl (by decide) ?_
        refine mm_ireturn rfl rfl rfl (by decide) (by decide) ?_
        exact ⟨by rw [show ed_sp r = 17 from by unfold ed_sp; (repeat' split) <;> omega], rfl, rfl, rfl⟩
    · refine mm_sipush (v := nI 289) rfl (by decide) ?_
      refine mm_ireturn rfl rfl rfl (by decide) (by decide) ?_
      exact ⟨by rw [show ed_sp r = 289 from by unfold ed_sp; (repeat' split) <;> omega], rfl, rfl, rfl⟩
  · refine mm_sipush (v := nI 4913) rfl (by decide) ?_
    refine mm_ireturn rfl rfl rfl (by decide) (by decide) ?_
    exact ⟨by rw [show ed_sp r = 4913 from by unfold ed_sp; (repeat' split) <;> omega], rfl, rfl, rfl⟩
set_option maxRecDepth 100000 in
set_option maxHeartbeats 4000000 in
theorem sY_isLonger {E : mm_E} {G : mm_G} {J : mm_J} {r b : Nat} (hr : r < 2 ^ 30) (hb : b < 2 ^ 30) : mm_Ret E qY_isLonger [.int (nI r), .int (nI b)] 86 J G (some (.int (nI (ed_b (ed_lg r b))))) 86 J G := by
  refine mm_Met.of qY_isLonger_ok (by decide) (mm_cats rfl) (Nat.le_of_ble_eq_true rfl) ?_
  have hsp := ed_sp_le b
  refine mm_iload_n rfl rfl ?_
  refine mm_iload_n rfl rfl ?_
  refine mm_icmp_leN (tgt := 19) rfl (by decide) (by omega) (by omega) (fun h2 => ?_) (fun h2 => ?_)
  · refine mm_iconst (v := nI 0) rfl (by decide) ?_
    refine mm_ireturn rfl rfl rfl (by decide) (by decide) ?_
    exact ⟨by rw [show ed_lg r b = false from by simp only [ed_lg, decide_eq_false_iff_not]; omega]; rfl, rfl, rfl, rfl⟩
  · refine mm_iload_n rfl rfl ?_
    refine mm_iload_n rfl rfl ?_
    refine mm_iload_n rfl rfl ?_
    refine mm_isS1 (M2 := qY_span) wd_284 qY_span_k (by decide) (sY_span hb) (Nat.le_of_ble_eq_true rfl) (by decide) (by decide) rfl (by decide) ?_
    refine mm_iaddN rfl ?_
    refine mm_icmp_geN (tgt := 19) rfl (by decide) (by omega) (by omega) (fun h12 => ?_) (fun h12 => ?_)
    · refine mm_iconst (v := nI 0) rfl (by decide) ?_
      refine mm_ireturn rfl rfl rfl (by decide) (by decide) ?_
      exact ⟨by rw [show ed_lg r b = false from by simp only [ed_lg, decide_eq_false_iff_not]; omega]; rfl, rfl, rfl, rfl⟩
    · refine mm_iconst (v := nI 1) rfl (by decide) ?_
      refine mm_goto (tgt := 20) rfl (by decide) ?_
      refine mm_ireturn rfl rfl rfl (by decide) (by decide) ?_
      exact ⟨by rw [show ed_lg r b = true from by simp only [ed_lg, decide_eq_true_eq]; omega]; rfl, rfl, rfl, rfl⟩
set_option maxRecDepth 100000 in
set_option maxHeartbeats 4000000 in
theorem sY_join {E : mm_E} {G : mm_G} {J : mm_J} {a b1 c1 : Nat} {sb sc : Int32} (hb : sb + nI 1 = nI b1) (hc : sc + nI 1 = nI c1) : mm_Ret E qY_join [.int (nI a), .int sb, .int sc] 86 J G (some (.int (nI ((a + 1) * 289 + b1 * 17 + c1)))) 86 J G := by
  refine mm_Met.of qY_join_ok (by decide) (mm_cats rfl) (Nat.le_of_ble_eq_true rfl) ?_
  refine mm_iload_n rfl rfl ?_
  refine mm_iconst (v := nI 1) rfl (by decide) ?_
  refine mm_iaddN rfl ?_
  refine mm_sipush (v := nI 289) rfl (by decide) ?_
  refine mm_imulN rfl ?_
  refine mm_iload_n rfl rfl ?_
  refine mm_iconst (v := nI 1) rfl (by decide) ?_
  refine mm_iadd rfl ?_
  rw [hb]
  refine mm_bipush (v := nI 17) rfl (by decide) ?_
  refine mm_imulN rfl ?_
  refine mm_iaddN rfl ?_
  refine mm_iload_n rfl rfl ?_
  refine mm_iadd rfl ?_
  refine mm_iconst (v := nI 1) rfl (by decide) ?_
  refine mm_iadd rfl ?_
  rw [Int32.add_assoc, hc, nI_add]
  refine mm_ireturn rfl rfl rfl (by decide) (by decide) ?_
  exact ⟨rfl, rfl, rfl, rfl⟩
set_option maxRecDepth 100000 in
set_option maxHeartbeats 4000000 in
theorem sY_pendingCount {E : mm_E} {G : mm_G} {J : mm_J} {r : Nat} (hr : r < 2 ^ 30) (hp : J 60 3 = nI r) : mm_Ret E qY_pendingCount [.ref 60] 86 J G (some (.int (nI (if ed_sp r = 4913 then 0 else if ed_sp r = 289 then 1 else 2)))) 86 J G := by
  refine mm_Met.of qY_pendingCount_ok (by decide) (mm_cats rfl) (Nat.le_of_ble_eq_true rfl) ?_
  have hsp := ed_sp_le r
  refine mm_aload_n rfl rfl ?_
  refine mm_getI (x := nI r) rfl rfl rfl (by decide) rfl hp ?_
  refine mm_isS1 (M2 := qY_span) wd_284 qY_span_k (by decide) (sY_span hr) (Nat.le_of_ble_eq_true rfl) (by decide) (by decide) rfl (by decide) ?_
  refine mm_istore_n rfl (by decide) ?_
  refine mm_iload_n rfl rfl ?_
  refine mm_sipush (v := nI 4913) rfl (by decide) ?_
  refine mm_icmp_neN (tgt := 17) rfl (by decide) (by omega) (by omega) (fun h12 => ?_) (fun h12 => ?_)
  · refine mm_iload_n rfl rfl ?_
    refine mm_sipush (v := nI 289) rfl (by decide) ?_
    refine mm_icmp_neN (tgt := 28) rfl (by decide) (by omega) (by omega) (fun h21 => ?_) (fun h21 => ?_)
    · refine mm_iconst (v := nI 2) rfl (by decide) ?_
      refine mm_ireturn rfl rfl rfl (by decide) (by decide) ?_
      exact ⟨by rw [if_neg h12, if_neg h21], rfl, rfl, rfl⟩
    · refine mm_iconst (v := nI 1) rfl (by decide) ?_
      refine mm_goto (tgt := 29) rfl (by decide) ?_
      refine mm_ireturn rfl rfl rfl (by decide) (by decide) ?_
      exact ⟨by rw [if_neg h12, if_pos h21], rfl, rfl, rfl⟩
  · refine mm_iconst (v := nI 0) rfl (by decide) ?_
    refine mm_ireturn rfl rfl rfl (by decide) (by decide) ?_
    exact ⟨by rw [if_pos h12], rfl, rfl, rfl⟩
