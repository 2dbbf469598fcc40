theorem ed_dm {x c : Nat} (hc : 0 < c) : (x % c + 1 = c → (x + 1) / c = x / c + 1 ∧ (x + 1) % c = 0) ∧ (¬ x % c + 1 = c → (x + 1) / c = x / c ∧ (x + 1) % c = x % c + 1) := by
  have h := Nat.div_add_mod x c
  have hl := Nat.mod_lt x hc
  refine ⟨fun e => ?_, fun e => ?_⟩
  · have h2 : x + 1 = c * (x / c + 1) := by rw [Nat.mul_succ]; omega
    rw [h2, Nat.mul_div_cancel_left _ hc, Nat.mul_mod_right]
    exact ⟨rfl, rfl⟩
  · generalize x / c = q at *
    generalize x % c = r at *
    have h2 : x + 1 = c * q + (r + 1) := by omega
    rw [h2, Nat.mul_add_div hc, Nat.mul_add_mod, Nat.div_eq_of_lt (by omega), Nat.mod_eq_of_lt (by omega)]
    exact ⟨rfl, rfl⟩
theorem ed_rc_run {f : Nat → Int32} {c p : Nat} (hc : 0 < c) (h0 : (ed_rc f c p).2 = 0) : ∀ k, (∀ j, p ≤ j → j < p + k → ¬ f j = nI 10) → ed_rc f c (p + k) = ((ed_rc f c p).1 + k / c, k % c)
  | 0, _ => by
    rw [Nat.zero_div, Nat.zero_mod, Nat.add_zero, Nat.add_zero, ← h0]
  | k + 1, h => by
    have h1 := ed_rc_run hc h0 k (fun j a b => h j a (by omega))
    have h2 := ed_dm (x := k) hc
    have h3 := h (p + k) (by omega) (by omega)
    rw [← Nat.add_assoc]
    by_cases e : k % c + 1 = c
    · rw [ed_rc_y (Or.inl (by rw [h1]; exact e)), h1, (h2.1 e).1, (h2.1 e).2]
      rfl
    · rw [ed_rc_n (by rw [h1]; exact e) h3, h1, (h2.2 e).1, (h2.2 e).2]
theorem ed_up_in {q : Nat → Bool} : ∀ k p j, p ≤ j → j < ed_up q k p → q j = true
  | 0, p, j, h1, h2 => by
    unfold ed_up at h2
    omega
  | k + 1, p, j, h1, h2 => by
    by_cases hq : q p = true
    · rw [ed_up_y hq] at h2
      rcases Nat.lt_or_eq_of_le h1 with e | e
      · exact ed_up_in k (p + 1) j e h2
      · rw [← e]; exact hq
    · rw [ed_up_n (by simpa using hq)] at h2
      omega
theorem ed_up_end {q : Nat → Bool} : ∀ k p, ed_up q k p < p + k → q (ed_up q k p) = false
  | 0, p, h => by
    unfold ed_up at h
    omega
  | k + 1, p, h => by
    by_cases hq : q p = true
    · rw [ed_up_y hq] at h ⊢
      exact ed_up_end k (p + 1) (by omega)
    · rw [ed_up_n (by simpa using hq)]
      simpa using hq
theorem ed_dn_in {q : Nat → Bool} : ∀ p j, ed_dn q p ≤ j → j < p → q j = true
  | 0, j, _, h2 => absurd h2 (by omega)
  | p + 1, j, h1, h2 => by
    by_cases hq : q p = true
    · rw [ed_dn_y hq] at h1
      rcases Nat.lt_or_eq_of_le (Nat.le_of_lt_succ h2) with e | e
      · exact ed_dn_in p j h1 e
      · rw [e]; exact hq
    · rw [ed_dn_n (by simpa using hq)] at h1
      omega
theorem ed_dn_end {q : Nat → Bool} : ∀ p, ed_dn q p = 0 ∨ ∃ x, ed_dn q p = x + 1 ∧ q x = false
  | 0 => Or.inl rfl
  | p + 1 => by
    by_cases hq : q p = true
    · rw [ed_dn_y hq]
      exact ed_dn_end p
    · exact Or.inr ⟨p, ed_dn_n (by simpa using hq), by simpa using hq⟩
theorem ed_nl_iff {f : Nat → Int32} {j : Nat} (h : ed_nl f j = true) : ¬ f j = nI 10 := by simpa [ed_nl] using h
theorem ed_nl_if0 {f : Nat → Int32} {j : Nat} (h : ed_nl f j = false) : f j = nI 10 := by simpa [ed_nl] using h
/-- a line's beginning -/
def ed_ls (f : Nat → Int32) (s : Nat) : Prop := s = 0 ∨ ∃ x, s = x + 1 ∧ f x = nI 10
theorem ed_ls_lb (f : Nat → Int32) (p : Nat) : ed_ls f (ed_lb f p) := by
  rcases ed_dn_end (q := ed_nl f) p with h | ⟨x, h1, h2⟩
  · exact Or.inl h
  · exact Or.inr ⟨x, h1, ed_nl_if0 h2⟩
theorem ed_ls_0 {f : Nat → Int32} {c s : Nat} (h : ed_ls f s) : (ed_rc f c s).2 = 0 := by
  rcases h with rfl | ⟨x, rfl, h⟩
  · rfl
  · rw [ed_rc_y (Or.inr h)]
theorem ed_rc_lb {f : Nat → Int32} {c p : Nat} (hc : 0 < c) : ed_rc f c p = ((ed_rc f c (ed_lb f p)).1 + (p - ed_lb f p) / c, (p - ed_lb f p) % c) := by
  have h1 := ed_lb_le (f := f) (p := p)
  have h2 := ed_rc_run hc (ed_ls_0 (c := c) (ed_ls_lb f p)) (p - ed_lb f p) (fun j a b => ed_nl_iff (ed_dn_in p j a (by omega)))
  rw [show ed_lb f p + (p - ed_lb f p) = p by omega] at h2
  exact h2
/-- the next line's beginning -/
theorem ed_rc_le1 {f : Nat → Int32} {c n p s : Nat} (hc : 0 < c) (hp : ed_ls f p) (hs : ed_ls f s) (hps : p < s) (hsn : s ≤ n) : ed_le f n p < s ∧ ed_ls f (ed_le f n p + 1) ∧ (ed_rc f c (ed_le f n p + 1)).1 = (ed_rc f c p).1 + ((ed_le f n p - p) / c + 1) := by
  have h1 := ed_le_le (f := f) (n := n) (p := p) (by omega)
  have hin : ∀ j, p ≤ j → j < ed_le f n p → ¬ f j = nI 10 := fun j a b => ed_nl_iff (ed_up_in (n - p) p j a b)
  have hlt : ed_le f n p < s := by
    rcases hs with rfl | ⟨x, rfl, hx⟩
    · omega
    · rcases Nat.lt_or_ge x (ed_le f n p) with e | e
      · exact absurd hx (hin x (by omega) e)
      · omega
  have hnl : f (ed_le f n p) = nI 10 := ed_nl_if0 (ed_up_end (n - p) p (by
    show ed_le f n p < p + (n - p)
    omega))
  have h2 := ed_rc_run hc (ed_ls_0 (c := c) hp) (ed_le f n p - p) (fun j a b => hin j a (by omega))
  rw [show p + (ed_le f n p - p) = ed_le f n p by omega] at h2
  refine ⟨hlt, Or.inr ⟨_, rfl, hnl⟩, ?_⟩
  rw [ed_rc_y (Or.inr hnl), h2]
  rfl
def ed_cb (f : Nat → Int32) (c sr sc : Nat) : Nat → Nat → Int32
  | 0, _ => nI 0
  | k + 1, i => if ¬ f i = nI 10 ∧ (ed_rc f c i).2 = sc ∧ (ed_rc f c i).1 = sr then f i else ed_cb f c sr sc k (i + 1)
set_option maxRecDepth 100000 in
set_option maxHeartbeats 4000000 in
theorem lR_rowsBefore {E : mm_E} {G : mm_G} {J : mm_J} (hG : mm_GI G) {n c s : Nat} (hn : J 69 3 = nI n) (hn2 : n ≤ 100) (hc : J 69 33 = nI c) (hc1 : 4 ≤ c) (hc2 : c ≤ 20) (hs : ed_ls (J 70) s) (hsn : s ≤ n) : ∀ (k p : Nat), s - p ≤ k → p ≤ s → ed_ls (J 70) p → mm_Go E qR_rowsBefore 4 [some (.ref 69), some (.int (nI s)), some (.int (nI (ed_rc (J 70) c p).1)), some (.int (nI p))] [] 86 J G 0 0 (mm_Fm E qR_rowsBefore (mm_is (some (.int (nI (ed_rc (J 70) c s).1))) 86 J G))
  | 0, p, hk, hp, hl => by
    have hrc := ed_rc_le (J 70) c p
    refine mm_iload_n rfl rfl ?_
    refine mm_iload_n rfl rfl ?_
    refine mm_icmp_geN (tgt := 37) rfl (by decide) (by omega) (by omega) (fun h6 => ?_) (fun h6 => ?_)
    · refine mm_iload_n rfl rfl ?_
      refine mm_ireturn rfl rfl rfl (by decide) (by decide) ?_
      exact ⟨by rw [show p = s by omega], rfl, rfl, rfl⟩
    · exact absurd h6 (by omega)
  | k + 1, p, hk, hp, hl => by
    have hrc := ed_rc_le (J 70) c p
    refine mm_iload_n rfl rfl ?_
    refine mm_iload_n rfl rfl ?_
    refine mm_icmp_geN (tgt := 37) rfl (by decide) (by omega) (by omega) (fun h6 => ?_) (fun h6 => ?_)
    · refine mm_iload_n rfl rfl ?_
      refine mm_ireturn rfl rfl rfl (by decide) (by decide) ?_
      exact ⟨by rw [show p = s by omega], rfl, rfl, rfl⟩
    · obtain ⟨e1, e2, e3⟩ := ed_rc_le1 (c := c) (by omega) hl hs h6 hsn
      have hle := ed_le_le (f := J 70) (n := n) (p := p) (by omega)
      have hdv := Nat.div_le_self (ed_le (J 70) n p - p) c
      refine mm_iload_n rfl rfl ?_
      refine mm_aload_n rfl rfl ?_
      refine mm_iload_n rfl rfl ?_
      refine mm_isV1 (M2 := qR_lineEnd) wd_685 qR_lineEnd_k (by decide) (sR_lineEnd hG hn hn2 (by omega)) rfl (by decide) (Nat.le_of_ble_eq_true rfl) (by decide) (by decide) rfl (by decide) ?_
      refine mm_iload_n rfl rfl ?_
      refine mm_isubN rfl (by omega) ?_
      refine mm_aload_n rfl rfl ?_
      refine mm_getI (x := nI c) rfl rfl rfl (by decide) rfl hc ?_
      refine mm_idivN rfl (by omega) (by omega) (by omega) ?_
      refine mm_iconst (v := nI 1) rfl (by decide) ?_
      refine mm_iaddN rfl ?_
      refine mm_iaddN rfl ?_
      refine mm_istore_n rfl (by decide) ?_
      refine mm_aload_n rfl rfl ?_
      refine mm_iload_n rfl rfl ?_
      refine mm_isV1 (M2 := qR_lineEnd) wd_685 qR_lineEnd_k (by decide) (sR_lineEnd hG hn hn2 (by omega)) rfl (by decide) (Nat.le_of_ble_eq_true rfl) (by decide) (by decide) rfl (by decide) ?_
      refine mm_iconst (v := nI 1) rfl (by decide) ?_
      refine mm_iaddN rfl ?_
      refine mm_istore_n rfl (by decide) ?_
      refine mm_goto (tgt := 4) rfl (by decide) ?_
      have K := lR_rowsBefore (E := E) hG hn hn2 hc hc1 hc2 hs hsn k (ed_le (J 70) n p + 1) (by omega) (by omega) e2
      rw [e3] at K
      exact K
set_option maxRecDepth 100000 in
set_option maxHeartbeats 4000000 in
theorem sR_rowsBefore {E : mm_E} {G : mm_G} {J : mm_J} (hG : mm_GI G) {n c s : Nat} (hn : J 69 3 = nI n) (hn2 : n ≤ 100) (hc : J 69 33 = nI c) (hc1 : 4 ≤ c) (hc2 : c ≤ 20) (hs : ed_ls (J 70) s) (hsn : s ≤ n) : mm_Ret E qR_rowsBefore [.ref 69, .int (nI s)] 86 J G (some (.int (nI (ed_rc (J 70) c s).1))) 86 J G := by
  refine mm_Met.of qR_rowsBefore_ok (by decide) (mm_cats rfl) (Nat.le_of_ble_eq_true rfl) ?_
  refine mm_iconst (v := nI 0) rfl (by decide) ?_
  refine mm_istore_n rfl (by decide) ?_
  refine mm_iconst (v := nI 0) rfl (by decide) ?_
  refine mm_istore_n rfl (by decide) ?_
  exact lR_rowsBefore hG hn hn2 hc hc1 hc2 hs hsn s 0 (by omega) (by omega) (Or.inl rfl)
set_option maxRecDepth 100000 in
set_option maxHeartbeats 4000000 in
theorem sR_pointRow {E : mm_E} {G : mm_G} {J : mm_J} (hG : mm_GI G) {n c q : Nat} (hn : J 69 3 = nI n) (hn2 : n ≤ 100) (hc : J 69 33 = nI c) (hc1 : 4 ≤ c) (hc2 : c ≤ 20) (hp : J 69 5 = nI q) (hq : q ≤ n) : mm_Ret E qR_pointRow [.ref 69] 86 J G (some (.int (nI (ed_rc (J 70) c q).1))) 86 J G := by
  refine mm_Met.of qR_pointRow_ok (by decide) (mm_cats rfl) (Nat.le_of_ble_eq_true rfl) ?_
  have hlb := ed_lb_le (f := J 70) (p := q)
  have hrc := congrArg Prod.fst (ed_rc_lb (f := J 70) (c := c) (p := q) (by omega))
  refine mm_aload_n rfl rfl ?_
  refine mm_aload_n rfl rfl ?_
  refine mm_getI (x := nI q) rfl rfl rfl (by decide) rfl hp ?_
  refine mm_isV1 (M2 := qR_lineStart) wd_725 qR_lineStart_k (by decide) (sR_lineStart hG (by omega)) rfl (by decide) (Nat.le_of_ble_eq_true rfl) (by decide) (by decide) rfl (by decide) ?_
  refine mm_istore_n rfl (by decide) ?_
  refine mm_aload_n rfl rfl ?_
  refine mm_iload_n rfl rfl ?_
  refine mm_isV1 (M2 := qR_rowsBefore) wd_765 qR_rowsBefore_k (by decide) (sR_rowsBefore hG hn hn2 hc hc1 hc2 (ed_ls_lb _ _) (by omega)) rfl (by decide) (Nat.le_of_ble_eq_true rfl) (by decide) (by decide) rfl (by decide) ?_
  refine mm_aload_n rfl rfl ?_
  refine mm_getI (x := nI q) rfl rfl rfl (by decide) rfl hp ?_
  refine mm_iload_n rfl rfl ?_
  refine mm_isubN rfl (by omega) ?_
  refine mm_aload_n rfl rfl ?_
  refine mm_getI (x := nI c) rfl rfl rfl (by decide) rfl hc ?_
  refine mm_idivN rfl (by omega) (by omega) (by omega) ?_
  refine mm_iaddN rfl ?_
  refine mm_ireturn rfl rfl rfl (by decide) (by decide) ?_
  exact ⟨by rw [hrc], rfl, rfl, rfl⟩
set_option maxRecDepth 100000 in
set_option maxHeartbeats 4000000 in
theorem sR_show {E : mm_E} {G : mm_G} {J : mm_J} (hG : mm_GI G) {n c q f w : Nat} (hn : J 69 3 = nI n) (hn2 : n ≤ 100) (hc : J 69 33 = nI c) (hc1 : 4 ≤ c) (hc2 : c ≤ 20) (hp : J 69 5 = nI q) (hq : q ≤ n) (hf : J 69 35 = nI f) (hf2 : f ≤ 200) (hw : J 69 34 = nI w) (hw1 : 2 ≤ w) (hw2 : w ≤ 6) : mm_Ret E qR_show [.ref 69] 86 J G none 86 (mm_set J 69 35 (nI (max (min f (ed_rc (J 70) c q).1) ((ed_rc (J 70) c q).1 + 1 - w)))) G := by
  refine mm_Met.of qR_show_ok (by decide) (mm_cats rfl) (Nat.le_of_ble_eq_true rfl) ?_
  have hrc := ed_rc_le (J 70) c q
  refine mm_aload_n rfl rfl ?_
  refine mm_isV0 (M2 := qR_pointRow) wd_761 qR_pointRow_k (by decide) (sR_pointRow hG hn hn2 hc hc1 hc2 hp hq) rfl (by decide) (Nat.le_of_ble_eq_true rfl) (by decide) (by decide) rfl (by decide) ?_
  refine mm_istore_n rfl (by decide) ?_
  refine mm_iload_n rfl rfl ?_
  refine mm_aload_n rfl rfl ?_
  refine mm_getI (x := nI f) rfl rfl rfl (by decide) rfl hf ?_
  refine mm_icmp_geN (tgt := 18) rfl (by decide) (by omega) (by omega) (fun h10 => ?_) (fun h10 => ?_)
  · refine mm_iload_n rfl rfl ?_
    refine mm_aload_n rfl rfl ?_
    refine mm_getI (x := nI f) rfl rfl rfl (by decide) rfl hf ?_
    refine mm_aload_n rfl rfl ?_
    refine mm_getI (x := nI w) rfl rfl rfl (by decide) rfl hw ?_
    refine mm_iaddN rfl ?_
    refine mm_icmp_ltN (tgt := 43) rfl (by decide) (by omega) (by omega) (fun h28 => ?_) (fun h28 => ?_)
    · refine mm_return rfl rfl (by decide) (by decide) ?_
      exact ⟨rfl, rfl, by rw [show (max (min f (ed_rc (J 70) c q).1) ((ed_rc (J 70) c q).1 + 1 - w)) = f by omega]; exact (mm_set_self hf).symm, rfl⟩
    · refine mm_aload_n rfl rfl ?_
      refine mm_iload_n rfl rfl ?_
      refine mm_aload_n rfl rfl ?_
      refine mm_getI (x := nI w) rfl rfl rfl (by decide) rfl hw ?_
      refine mm_isubN rfl (by omega) ?_
      refine mm_iconst (v := nI 1) rfl (by decide) ?_
      refine mm_iaddN rfl ?_
      refine mm_putI rfl rfl rfl (by decide) rfl (Or.inl rfl) rfl rfl ?_
      refine mm_return rfl rfl (by decide) (by decide) ?_
      exact ⟨rfl, rfl, by rw [show (max (min f (ed_rc (J 70) c q).1) ((ed_rc (J 70) c q).1 + 1 - w)) = (ed_rc (J 70) c q).1 - w + 1 by omega], rfl⟩
  · refine mm_aload_n rfl rfl ?_
    refine mm_iload_n rfl rfl ?_
    refine mm_putI rfl rfl rfl (by decide) rfl (Or.inl rfl) rfl rfl ?_
    refine mm_iload_n rfl rfl ?_
    refine mm_aload_n rfl rfl ?_
    refine mm_getI (x := nI (ed_rc (J 70) c q).1) rfl rfl rfl (by decide) rfl (by simp [mm_set]) ?_
    refine mm_aload_n rfl rfl ?_
    refine mm_getI (x := nI w) rfl rfl rfl (by decide) rfl (by simp [mm_set, mm_cp, hw]) ?_
    refine mm_iaddN rfl ?_
    refine mm_icmp_ltN (tgt := 43) rfl (by decide) (by omega) (by omega) (fun h28 => ?_) (fun h28 => ?_)
    · refine mm_return rfl rfl (by decide) (by decide) ?_
      exact ⟨rfl, rfl, by rw [show (max (min f (ed_rc (J 70) c q).1) ((ed_rc (J 70) c q).1 + 1 - w)) = (ed_rc (J 70) c q).1 by omega], rfl⟩
    · exact absurd h28 (by omega)
set_option maxRecDepth 100000 in
set_option maxHeartbeats 4000000 in
theorem sR_cell0 {E : mm_E} {G : mm_G} {J : mm_J} {c w : Nat} (hc : J 69 33 = nI c) (hc2 : c ≤ 20) (hw : J 69 34 = nI w) (hw2 : w ≤ 6) {x y : Int32} (h : x < 0 ∨ nI w ≤ x ∨ y < 0 ∨ nI c ≤ y) : mm_Ret E qR_cell [.ref 69, .int x, .int y] 86 J G (some (.int (-1))) 86 J G := by
  refine mm_Met.of qR_cell_ok (by decide) (mm_cats rfl) (Nat.le_of_ble_eq_true rfl) ?_
  refine mm_iload_n rfl rfl ?_
  refine mm_if_lt (tgt := 24) rfl (by decide) (fun h1 => ?_) (fun h1 => ?_)
  · refine mm_iconst (v := -1) rfl (by decide) ?_
    refine mm_ireturn rfl rfl rfl (by decide) (by decide) ?_
    exact ⟨rfl, rfl, rfl, rfl⟩
  · refine mm_iload_n rfl rfl ?_
    refine mm_aload_n rfl rfl ?_
    refine mm_getI (x := nI w) rfl rfl rfl (by decide) rfl hw ?_
    refine mm_icmp_ge (tgt := 24) rfl (by decide) (fun h9 => ?_) (fun h9 => ?_)
    · refine mm_iconst (v := -1) rfl (by decide) ?_
      refine mm_ireturn rfl rfl rfl (by decide) (by decide) ?_
      exact ⟨rfl, rfl, rfl, rfl⟩
    · refine mm_iload_n rfl rfl ?_
      refine mm_if_lt (tgt := 24) rfl (by decide) (fun h13 => ?_) (fun h13 => ?_)
      · refine mm_iconst (v := -1) rfl (by decide) ?_
        refine mm_ireturn rfl rfl rfl (by decide) (by decide) ?_
        exact ⟨rfl, rfl, rfl, rfl⟩
      · refine mm_iload_n rfl rfl ?_
        refine mm_aload_n rfl rfl ?_
        refine mm_getI (x := nI c) rfl rfl rfl (by decide) rfl hc ?_
        refine mm_icmp_lt (tgt := 26) rfl (by decide) (fun h21 => ?_) (fun h21 => ?_)
        · exact h.elim (fun q => absurd q h1) (fun q => q.elim (fun q => absurd q h9) (fun q => q.elim (fun q => absurd q h13) (fun q => absurd h21 (Int32.not_lt.mpr q))))
        · refine mm_iconst (v := -1) rfl (by decide) ?_
          refine mm_ireturn rfl rfl rfl (by decide) (by decide) ?_
          exact ⟨rfl, rfl, rfl, rfl⟩
set_option maxRecDepth 100000 in
set_option maxHeartbeats 4000000 in
theorem lR_cell {E : mm_E} {G : mm_G} {J : mm_J} (hG : mm_GI G) {n c x sr sc : Nat} (hn : J 69 3 = nI n) (hn2 : n ≤ 100) (hc : J 69 33 = nI c) (hc1 : 4 ≤ c) (hc2 : c ≤ 20) (hsr : sr ≤ 400) (hsc : sc ≤ 20) : ∀ (k i : Nat) (z1 z2 : Option Value), n - i = k → i ≤ n → mm_Go E qR_cell 40 [some (.ref 69), some (.int (nI x)), some (.int (nI sc)), some (.int (nI sr)), some (.int (nI i)), z1, z2] [] 86 J G 0 0 (mm_Fm E qR_cell (mm_is (some (.int (ed_cb (J 70) c sr sc k i))) 86 J G))
  | 0, i, z1, z2, hk, hi => by
    refine mm_iload rfl rfl ?_
    refine mm_aload_n rfl rfl ?_
    refine mm_getI (x := nI n) rfl rfl rfl (by decide) rfl hn ?_
    refine mm_icmp_geN (tgt := 119) rfl (by decide) (by omega) (by omega) (fun h46 => ?_) (fun h46 => ?_)
    · refine mm_iconst (v := nI 0) rfl (by decide) ?_
      refine mm_ireturn rfl rfl rfl (by decide) (by decide) ?_
      exact ⟨rfl, rfl, rfl, rfl⟩
    · exact absurd h46 (by omega)
  | k + 1, i, z1, z2, hk, hi => by
    have hlb := ed_lb_le (f := J 70) (p := i)
    have hr1 := congrArg Prod.fst (ed_rc_lb (f := J 70) (c := c) (p := i) (by omega))
    have hr2 := congrArg Prod.snd (ed_rc_lb (f := J 70) (c := c) (p := i) (by omega))
    have hrc := ed_rc_le (J 70) c i
    have hrc2 := ed_rc_le (J 70) c (ed_lb (J 70) i)
    have hml := Nat.mod_lt (i - ed_lb (J 70) i) (show 0 < c by omega)
    have hdl := Nat.div_le_self (i - ed_lb (J 70) i) c
    refine mm_iload rfl rfl ?_
    refine mm_aload_n rfl rfl ?_
    refine mm_getI (x := nI n) rfl rfl rfl (by decide) rfl hn ?_
    refine mm_icmp_geN (tgt := 119) rfl (by decide) (by omega) (by omega) (fun h46 => ?_) (fun h46 => ?_)
    · exact absurd h46 (by omega)
    · refine mm_aload_n rfl rfl ?_
      refine mm_iload rfl rfl ?_
      refine mm_isV1 (M2 := qR_lineStart) wd_725 qR_lineStart_k (by decide) (sR_lineStart hG (by omega)) rfl (by decide) (Nat.le_of_ble_eq_true rfl) (by decide) (by decide) rfl (by decide) ?_
      refine mm_istore rfl (by decide) ?_
      refine mm_iload rfl rfl ?_
      refine mm_iload rfl rfl ?_
      refine mm_isubN rfl (by omega) ?_
      refine mm_istore rfl (by decide) ?_
      refine mm_aload_n rfl rfl ?_
      refine mm_getR rfl rfl rfl (by decide) rfl (mm_gi hG 69 0 70 (by decide)) ?_
      refine mm_iload rfl rfl ?_
      refine mm_rdN rfl (by decide) rfl (by decide) (by omega) (by decide) rfl rfl ?_
      refine mm_bipush (v := nI 10) rfl (by decide) ?_
      refine mm_icmp_eq (tgt := 113) rfl (by decide) (fun h73 => ?_) (fun h73 => ?_)
      · refine mm_iincN rfl rfl (mm_inc1 _) (by decide) ?_
        refine mm_goto (tgt := 40) rfl (by decide) ?_
        rw [show ed_cb (J 70) c sr sc (k + 1) i = ed_cb (J 70) c sr sc k (i + 1) from by rw [ed_cb, if_neg (fun q => q.1 h73)]]
        exact lR_cell hG hn hn2 hc hc1 hc2 hsr hsc k (i + 1) _ _ (by omega) (by omega)
      · refine mm_iload rfl rfl ?_
        refine mm_aload_n rfl rfl ?_
        refine mm_getI (x := nI c) rfl rfl rfl (by decide) rfl hc ?_
        refine mm_iremN rfl (by omega) (by omega) (by omega) ?_
        refine mm_iload_n rfl rfl ?_
        refine mm_icmp_neN (tgt := 113) rfl (by decide) (by omega) (by omega) (fun h84 => ?_) (fun h84 => ?_)
        · refine mm_iincN rfl rfl (mm_inc1 _) (by decide) ?_
          refine mm_goto (tgt := 40) rfl (by decide) ?_
          rw [show ed_cb (J 70) c sr sc (k + 1) i = ed_cb (J 70) c sr sc k (i + 1) from by rw [ed_cb, if_neg (fun q => h84 (hr2.symm.trans q.2.1))]]
          exact lR_cell hG hn hn2 hc hc1 hc2 hsr hsc k (i + 1) _ _ (by omega) (by omega)
        · refine mm_aload_n rfl rfl ?_
          refine mm_iload rfl rfl ?_
          refine mm_isV1 (M2 := qR_rowsBefore) wd_765 qR_rowsBefore_k (by decide) (sR_rowsBefore hG hn hn2 hc hc1 hc2 (ed_ls_lb _ _) (by omega)) rfl (by decide) (Nat.le_of_ble_eq_true rfl) (by decide) (by decide) rfl (by decide) ?_
          refine mm_iload rfl rfl ?_
          refine mm_aload_n rfl rfl ?_
          refine mm_getI (x := nI c) rfl rfl rfl (by decide) rfl hc ?_
          refine mm_idivN rfl (by omega) (by omega) (by omega) ?_
          refine mm_iaddN rfl ?_
          refine mm_iload_n rfl rfl ?_
          refine mm_icmp_neN (tgt := 113) rfl (by decide) (by omega) (by omega) (fun h102 => ?_) (fun h102 => ?_)
          · refine mm_iincN rfl rfl (mm_inc1 _) (by decide) ?_
            refine mm_goto (tgt := 40) rfl (by decide) ?_
            rw [show ed_cb (J 70) c sr sc (k + 1) i = ed_cb (J 70) c sr sc k (i + 1) from by rw [ed_cb, if_neg (fun q => h102 (hr1.symm.trans q.2.2))]]
            exact lR_cell hG hn hn2 hc hc1 hc2 hsr hsc k (i + 1) _ _ (by omega) (by omega)
          · refine mm_aload_n rfl rfl ?_
            refine mm_getR rfl rfl rfl (by decide) rfl (mm_gi hG 69 0 70 (by decide)) ?_
            refine mm_iload rfl rfl ?_
            refine mm_rdN rfl (by decide) rfl (by decide) (by omega) (by decide) rfl rfl ?_
            refine mm_ireturn rfl rfl rfl (by decide) (by decide) ?_
            exact ⟨by rw [ed_cb, if_pos ⟨h73, hr2.trans h84, hr1.trans h102⟩], rfl, rfl, rfl⟩
set_option maxRecDepth 100000 in
set_option maxHeartbeats 4000000 in
theorem sR_cell1 {E : mm_E} {G : mm_G} {J : mm_J} (hG : mm_GI G) {n c q f w : Nat} (hn : J 69 3 = nI n) (hn2 : n ≤ 100) (hc : J 69 33 = nI c) (hc1 : 4 ≤ c) (hc2 : c ≤ 20) (hp : J 69 5 = nI q) (hq : q ≤ n) (hf : J 69 35 = nI f) (hf2 : f ≤ 200) (hw : J 69 34 = nI w) (hw1 : 2 ≤ w) (hw2 : w ≤ 6) {x y : Nat} (h1 : x < w) (h2 : y < c) : mm_Ret E qR_cell [.ref 69, .int (nI x), .int (nI y)] 86 J G (some (.int (ed_cb (J 70) c ((max (min f (ed_rc (J 70) c q).1) ((ed_rc (J 70) c q).1 + 1 - w)) + x) y n 0))) 86 (mm_set J 69 35 (nI (max (min f (ed_rc (J 70) c q).1) ((ed_rc (J 70) c q).1 + 1 - w)))) G := by
  refine mm_Met.of qR_cell_ok (by decide) (mm_cats rfl) (Nat.le_of_ble_eq_true rfl) ?_
  have hrc := ed_rc_le (J 70) c q
  refine mm_iload_n rfl rfl ?_
  refine mm_if_ltN (tgt := 24) rfl (by decide) (by omega) ?_
  refine mm_iload_n rfl rfl ?_
  refine mm_aload_n rfl rfl ?_
  refine mm_getI (x := nI w) rfl rfl rfl (by decide) rfl hw ?_
  refine mm_icmp_geN (tgt := 24) rfl (by decide) (by omega) (by omega) (fun h9 => ?_) (fun h9 => ?_)
  · exact absurd h9 (by omega)
  · refine mm_iload_n rfl rfl ?_
    refine mm_if_ltN (tgt := 24) rfl (by decide) (by omega) ?_
    refine mm_iload_n rfl rfl ?_
    refine mm_aload_n rfl rfl ?_
    refine mm_getI (x := nI c) rfl rfl rfl (by decide) rfl hc ?_
    refine mm_icmp_ltN (tgt := 26) rfl (by decide) (by omega) (by omega) (fun h21 => ?_) (fun h21 => ?_)
    · refine mm_aload_n rfl rfl ?_
      refine mm_isV0 (M2 := qR_show) wd_757 qR_show_k (by decide) (sR_show hG hn hn2 hc hc1 hc2 hp hq hf hf2 hw hw1 hw2) rfl (by decide) (Nat.le_of_ble_eq_true rfl) (by decide) (by decide) rfl (by decide) ?_
      refine mm_aload_n rfl rfl ?_
      refine mm_getI (x := nI (max (min f (ed_rc (J 70) c q).1) ((ed_rc (J 70) c q).1 + 1 - w))) rfl rfl rfl (by decide) rfl (by simp [mm_set]) ?_
      refine mm_iload_n rfl rfl ?_
      refine mm_iaddN rfl ?_
      refine mm_istore_n rfl (by decide) ?_
      refine mm_iconst (v := nI 0) rfl (by decide) ?_
      refine mm_istore rfl (by decide) ?_
      exact lR_cell (J := mm_set J 69 35 (nI (max (min f (ed_rc (J 70) c q).1) ((ed_rc (J 70) c q).1 + 1 - w)))) (n := n) (c := c) hG (by simp [mm_set, hn]) hn2 (by simp [mm_set, hc]) hc1 hc2 (by omega) (by omega) n 0 none none rfl (by omega)
    · exact absurd h21 (by omega)
set_option maxRecDepth 100000 in
set_option maxHeartbeats 4000000 in
theorem sR_info0 {E : mm_E} {G : mm_G} {J : mm_J}  : mm_Ret E qR_info [.ref 69, .int (nI 0)] 86 J G (some (.int (J 69 3))) 86 J G := by
  refine mm_Met.of qR_info_ok (by decide) (mm_cats rfl) (Nat.le_of_ble_eq_true rfl) ?_
  refine mm_iload_n rfl rfl ?_
  refine mm_if_ltN (tgt := 10) rfl (by decide) (by omega) ?_
  refine mm_iload_n rfl rfl ?_
  refine mm_bipush (v := nI 13) rfl (by decide) ?_
  refine mm_icmp_leN (tgt := 12) rfl (by decide) (by decide) (by decide) (fun _ => ?_) (fun h => absurd h (by decide))
  refine mm_iload_n rfl rfl ?_
  refine mm_iconst (v := nI 3) rfl (by decide) ?_
  refine mm_icmp_geN (tgt := 45) rfl (by decide) (by decide) (by decide) (fun h => absurd h (by decide)) (fun _ => ?_)
  refine mm_iload_n rfl rfl ?_
  refine mm_if_neN (tgt := 28) rfl (by decide) (by decide) (fun h => absurd h (by decide)) (fun _ => ?_)
  refine mm_aload_n rfl rfl ?_
  refine mm_getI rfl rfl rfl (by decide) rfl rfl ?_
  refine mm_goto (tgt := 44) rfl (by decide) ?_
  refine mm_ireturn rfl rfl rfl (by decide) (by decide) ?_
  exact ⟨rfl, rfl, rfl, rfl⟩
set_option maxRecDepth 100000 in
set_option maxHeartbeats 4000000 in
theorem sR_info1 {E : mm_E} {G : mm_G} {J : mm_J}  : mm_Ret E qR_info [.ref 69, .int (nI 1)] 86 J G (some (.int (J 69 5))) 86 J G := by
  refine mm_Met.of qR_info_ok (by decide) (mm_cats rfl) (Nat.le_of_ble_eq_true rfl) ?_
  refine mm_iload_n rfl rfl ?_
  refine mm_if_ltN (tgt := 10) rfl (by decide) (by omega) ?_
  refine mm_iload_n rfl rfl ?_
  refine mm_bipush (v := nI 13) rfl (by decide) ?_
  refine mm_icmp_leN (tgt := 12) rfl (by decide) (by decide) (by decide) (fun _ => ?_) (fun h => absurd h (by decide))
  refine mm_iload_n rfl rfl ?_
  refine mm_iconst (v := nI 3) rfl (by decide) ?_
  refine mm_icmp_geN (tgt := 45) rfl (by decide) (by decide) (by decide) (fun h => absurd h (by decide)) (fun _ => ?_)
  refine mm_iload_n rfl rfl ?_
  refine mm_if_neN (tgt := 28) rfl (by decide) (by decide) (fun _ => ?_) (fun h => absurd h (by decide))
  refine mm_iload_n rfl rfl ?_
  refine mm_iconst (v := nI 1) rfl (by decide) ?_
  refine mm_icmp_neN (tgt := 40) rfl (by decide) (by decide) (by decide) (fun h => absurd h (by decide)) (fun _ => ?_)
  refine mm_aload_n rfl rfl ?_
  refine mm_getI rfl rfl rfl (by decide) rfl rfl ?_
  refine mm_goto (tgt := 44) rfl (by decide) ?_
  refine mm_ireturn rfl rfl rfl (by decide) (by decide) ?_
  exact ⟨rfl, rfl, rfl, rfl⟩
set_option maxRecDepth 100000 in
set_option maxHeartbeats 4000000 in
theorem sR_info2 {E : mm_E} {G : mm_G} {J : mm_J}  : mm_Ret E qR_info [.ref 69, .int (nI 2)] 86 J G (some (.int (J 69 6))) 86 J G := by
  refine mm_Met.of qR_info_ok (by decide) (mm_cats rfl) (Nat.le_of_ble_eq_true rfl) ?_
  refine mm_iload_n rfl rfl ?_
  refine mm_if_ltN (tgt := 10) rfl (by decide) (by omega) ?_
  refine mm_iload_n rfl rfl ?_
  refine mm_bipush (v := nI 13) rfl (by decide) ?_
  refine mm_icmp_leN (tgt := 12) rfl (by decide) (by decide) (by decide) (fun _ => ?_) (fun h => absurd h (by decide))
  refine mm_iload_n rfl rfl ?_
  refine mm_iconst (v := nI 3) rfl (by decide) ?_
  refine mm_icmp_geN (tgt := 45) rfl (by decide) (by decide) (by decide) (fun h => absurd h (by decide)) (fun _ => ?_)
  refine mm_iload_n rfl rfl ?_
  refine mm_if_neN (tgt := 28) rfl (by decide) (by decide) (fun _ => ?_) (fun h => absurd h (by decide))
  refine mm_iload_n rfl rfl ?_
  refine mm_iconst (v := nI 1) rfl (by decide) ?_
  refine mm_icmp_neN (tgt := 40) rfl (by decide) (by decide) (by decide) (fun _ => ?_) (fun h => absurd h (by decide))
  refine mm_aload_n rfl rfl ?_
  refine mm_getI rfl rfl rfl (by decide) rfl rfl ?_
  refine mm_ireturn rfl rfl rfl (by decide) (by decide) ?_
  exact ⟨rfl, rfl, rfl, rfl⟩
set_option maxRecDepth 100000 in
set_option maxHeartbeats 4000000 in
theorem sR_info3 {E : mm_E} {G : mm_G} {J : mm_J}  : mm_Ret E qR_info [.ref 69, .int (nI 3)] 86 J G (some (.int (J 69 14))) 86 J G := by
  refine mm_Met.of qR_info_ok (by decide) (mm_cats rfl) (Nat.le_of_ble_eq_true rfl) ?_
  refine mm_iload_n rfl rfl ?_
  refine mm_if_ltN (tgt := 10) rfl (by decide) (by omega) ?_
  refine mm_iload_n rfl rfl ?_
  refine mm_bipush (v := nI 13) rfl (by decide) ?_
  refine mm_icmp_leN (tgt := 12) rfl (by decide) (by decide) (by decide) (fun _ => ?_) (fun h => absurd h (by decide))
  refine mm_iload_n rfl rfl ?_
  refine mm_iconst (v := nI 3) rfl (by decide) ?_
  refine mm_icmp_geN (tgt := 45) rfl (by decide) (by decide) (by decide) (fun _ => ?_) (fun h => absurd h (by decide))
  refine mm_iload_n rfl rfl ?_
  refine mm_bipush (v := nI 6) rfl (by decide) ?_
  refine mm_icmp_geN (tgt := 80) rfl (by decide) (by decide) (by decide) (fun h => absurd h (by decide)) (fun _ => ?_)
  refine mm_iload_n rfl rfl ?_
  refine mm_iconst (v := nI 3) rfl (by decide) ?_
  refine mm_icmp_neN (tgt := 63) rfl (by decide) (by decide) (by decide) (fun h => absurd h (by decide)) (fun _ => ?_)
  refine mm_aload_n rfl rfl ?_
  refine mm_getI rfl rfl rfl (by decide) rfl rfl ?_
  refine mm_goto (tgt := 79) rfl (by decide) ?_
  refine mm_ireturn rfl rfl rfl (by decide) (by decide) ?_
  exact ⟨rfl, rfl, rfl, rfl⟩
set_option maxRecDepth 100000 in
set_option maxHeartbeats 4000000 in
theorem sR_info4 {E : mm_E} {G : mm_G} {J : mm_J}  : mm_Ret E qR_info [.ref 69, .int (nI 4)] 86 J G (some (.int (J 69 23))) 86 J G := by
  refine mm_Met.of qR_info_ok (by decide) (mm_cats rfl) (Nat.le_of_ble_eq_true rfl) ?_
  refine mm_iload_n rfl rfl ?_
  refine mm_if_ltN (tgt := 10) rfl (by decide) (by omega) ?_
  refine mm_iload_n rfl rfl ?_
  refine mm_bipush (v := nI 13) rfl (by decide) ?_
  refine mm_icmp_leN (tgt := 12) rfl (by decide) (by decide) (by decide) (fun _ => ?_) (fun h => absurd h (by decide))
  refine mm_iload_n rfl rfl ?_
  refine mm_iconst (v := nI 3) rfl (by decide) ?_
  refine mm_icmp_geN (tgt := 45) rfl (by decide) (by decide) (by decide) (fun _ => ?_) (fun h => absurd h (by decide))
  refine mm_iload_n rfl rfl ?_
  refine mm_bipush (v := nI 6) rfl (by decide) ?_
  refine mm_icmp_geN (tgt := 80) rfl (by decide) (by decide) (by decide) (fun h => absurd h (by decide)) (fun _ => ?_)
  refine mm_iload_n rfl rfl ?_
  refine mm_iconst (v := nI 3) rfl (by decide) ?_
  refine mm_icmp_neN (tgt := 63) rfl (by decide) (by decide) (by decide) (fun _ => ?_) (fun h => absurd h (by decide))
  refine mm_iload_n rfl rfl ?_
  refine mm_iconst (v := nI 4) rfl (by decide) ?_
  refine mm_icmp_neN (tgt := 75) rfl (by decide) (by decide) (by decide) (fun h => absurd h (by decide)) (fun _ => ?_)
  refine mm_aload_n rfl rfl ?_
  refine mm_getI rfl rfl rfl (by decide) rfl rfl ?_
  refine mm_goto (tgt := 79) rfl (by decide) ?_
  refine mm_ireturn rfl rfl rfl (by decide) (by decide) ?_
  exact ⟨rfl, rfl, rfl, rfl⟩
set_option maxRecDepth 100000 in
set_option maxHeartbeats 4000000 in
theorem sR_info5 {E : mm_E} {G : mm_G} {J : mm_J}  : mm_Ret E qR_info [.ref 69, .int (nI 5)] 86 J G (some (.int (J 69 29))) 86 J G := by
  refine mm_Met.of qR_info_ok (by decide) (mm_cats rfl) (Nat.le_of_ble_eq_true rfl) ?_
  refine mm_iload_n rfl rfl ?_
  refine mm_if_ltN (tgt := 10) rfl (by decide) (by omega) ?_
  refine mm_iload_n rfl rfl ?_
  refine mm_bipush (v := nI 13) rfl (by decide) ?_
  refine mm_icmp_leN (tgt := 12) rfl (by decide) (by decide) (by decide) (fun _ => ?_) (fun h => absurd h (by decide))
  refine mm_iload_n rfl rfl ?_
  refine mm_iconst (v := nI 3) rfl (by decide) ?_
  refine mm_icmp_geN (tgt := 45) rfl (by decide) (by decide) (by decide) (fun _ => ?_) (fun h => absurd h (by decide))
  refine mm_iload_n rfl rfl ?_
  refine mm_bipush (v := nI 6) rfl (by decide) ?_
  refine mm_icmp_geN (tgt := 80) rfl (by decide) (by decide) (by decide) (fun h => absurd h (by decide)) (fun _ => ?_)
  refine mm_iload_n rfl rfl ?_
  refine mm_iconst (v := nI 3) rfl (by decide) ?_
  refine mm_icmp_neN (tgt := 63) rfl (by decide) (by decide) (by decide) (fun _ => ?_) (fun h => absurd h (by decide))
  refine mm_iload_n rfl rfl ?_
  refine mm_iconst (v := nI 4) rfl (by decide) ?_
  refine mm_icmp_neN (tgt := 75) rfl (by decide) (by decide) (by decide) (fun _ => ?_) (fun h => absurd h (by decide))
  refine mm_aload_n rfl rfl ?_
  refine mm_getI rfl rfl rfl (by decide) rfl rfl ?_
  refine mm_ireturn rfl rfl rfl (by decide) (by decide) ?_
  exact ⟨rfl, rfl, rfl, rfl⟩
set_option maxRecDepth 100000 in
set_option maxHeartbeats 4000000 in
theorem sR_info6 {E : mm_E} {G : mm_G} {J : mm_J}  : mm_Ret E qR_info [.ref 69, .int (nI 6)] 86 J G (some (.int (J 69 31))) 86 J G := by
  refine mm_Met.of qR_info_ok (by decide) (mm_cats rfl) (Nat.le_of_ble_eq_true rfl) ?_
  refine mm_iload_n rfl rfl ?_
  refine mm_if_ltN (tgt := 10) rfl (by decide) (by omega) ?_
  refine mm_iload_n rfl rfl ?_
  refine mm_bipush (v := nI 13) rfl (by decide) ?_
  refine mm_icmp_leN (tgt := 12) rfl (by decide) (by decide) (by decide) (fun _ => ?_) (fun h => absurd h (by decide))
  refine mm_iload_n rfl rfl ?_
  refine mm_iconst (v := nI 3) rfl (by decide) ?_
  refine mm_icmp_geN (tgt := 45) rfl (by decide) (by decide) (by decide) (fun _ => ?_) (fun h => absurd h (by decide))
  refine mm_iload_n rfl rfl ?_
  refine mm_bipush (v := nI 6) rfl (by decide) ?_
  refine mm_icmp_geN (tgt := 80) rfl (by decide) (by decide) (by decide) (fun _ => ?_) (fun h => absurd h (by decide))
  refine mm_iload_n rfl rfl ?_
  refine mm_bipush (v := nI 9) rfl (by decide) ?_
  refine mm_icmp_geN (tgt := 125) rfl (by decide) (by decide) (by decide) (fun h => absurd h (by decide)) (fun _ => ?_)
  refine mm_iload_n rfl rfl ?_
  refine mm_bipush (v := nI 6) rfl (by decide) ?_
  refine mm_icmp_neN (tgt := 99) rfl (by decide) (by decide) (by decide) (fun h => absurd h (by decide)) (fun _ => ?_)
  refine mm_aload_n rfl rfl ?_
  refine mm_getI rfl rfl rfl (by decide) rfl rfl ?_
  refine mm_goto (tgt := 124) rfl (by decide) ?_
  refine mm_ireturn rfl rfl rfl (by decide) (by decide) ?_
  exact ⟨rfl, rfl, rfl, rfl⟩
set_option maxRecDepth 100000 in
set_option maxHeartbeats 4000000 in
theorem sR_info8 {E : mm_E} {G : mm_G} {J : mm_J}  : mm_Ret E qR_info [.ref 69, .int (nI 8)] 86 J G (some (.int (J 69 27))) 86 J G := by
  refine mm_Met.of qR_info_ok (by decide) (mm_cats rfl) (Nat.le_of_ble_eq_true rfl) ?_
  refine mm_iload_n rfl rfl ?_
  refine mm_if_ltN (tgt := 10) rfl (by decide) (by omega) ?_
  refine mm_iload_n rfl rfl ?_
  refine mm_bipush (v := nI 13) rfl (by decide) ?_
  refine mm_icmp_leN (tgt := 12) rfl (by decide) (by decide) (by decide) (fun _ => ?_) (fun h => absurd h (by decide))
  refine mm_iload_n rfl rfl ?_
  refine mm_iconst (v := nI 3) rfl (by decide) ?_
  refine mm_icmp_geN (tgt := 45) rfl (by decide) (by decide) (by decide) (fun _ => ?_) (fun h => absurd h (by decide))
  refine mm_iload_n rfl rfl ?_
  refine mm_bipush (v := nI 6) rfl (by decide) ?_
  refine mm_icmp_geN (tgt := 80) rfl (by decide) (by decide) (by decide) (fun _ => ?_) (fun h => absurd h (by decide))
  refine mm_iload_n rfl rfl ?_
  refine mm_bipush (v := nI 9) rfl (by decide) ?_
  refine mm_icmp_geN (tgt := 125) rfl (by decide) (by decide) (by decide) (fun h => absurd h (by decide)) (fun _ => ?_)
  refine mm_iload_n rfl rfl ?_
  refine mm_bipush (v := nI 6) rfl (by decide) ?_
  refine mm_icmp_neN (tgt := 99) rfl (by decide) (by decide) (by decide) (fun _ => ?_) (fun h => absurd h (by decide))
  refine mm_iload_n rfl rfl ?_
  refine mm_bipush (v := nI 7) rfl (by decide) ?_
  refine mm_icmp_neN (tgt := 120) rfl (by decide) (by decide) (by decide) (fun _ => ?_) (fun h => absurd h (by decide))
  refine mm_aload_n rfl rfl ?_
  refine mm_getI rfl rfl rfl (by decide) rfl rfl ?_
  refine mm_ireturn rfl rfl rfl (by decide) (by decide) ?_
  exact ⟨rfl, rfl, rfl, rfl⟩
set_option maxRecDepth 100000 in
set_option maxHeartbeats 4000000 in
theorem sR_info7 {E : mm_E} {G : mm_G} {J : mm_J} {rc : Nat} (hr : J 69 32 = nI rc) (hr2 : rc < 2) : mm_Ret E qR_info [.ref 69, .int (nI 7)] 86 J G (some (.int (nI rc))) 86 J G := by
  refine mm_Met.of qR_info_ok (by decide) (mm_cats rfl) (Nat.le_of_ble_eq_true rfl) ?_
  refine mm_iload_n rfl rfl ?_
  refine mm_if_ltN (tgt := 10) rfl (by decide) (by omega) ?_
  refine mm_iload_n rfl rfl ?_
  refine mm_bipush (v := nI 13) rfl (by decide) ?_
  refine mm_icmp_leN (tgt := 12) rfl (by decide) (by decide) (by decide) (fun _ => ?_) (fun h => absurd h (by decide))
  refine mm_iload_n rfl rfl ?_
  refine mm_iconst (v := nI 3) rfl (by decide) ?_
  refine mm_icmp_geN (tgt := 45) rfl (by decide) (by decide) (by decide) (fun _ => ?_) (fun h => absurd h (by decide))
  refine mm_iload_n rfl rfl ?_
  refine mm_bipush (v := nI 6) rfl (by decide) ?_
  refine mm_icmp_geN (tgt := 80) rfl (by decide) (by decide) (by decide) (fun _ => ?_) (fun h => absurd h (by decide))
  refine mm_iload_n rfl rfl ?_
  refine mm_bipush (v := nI 9) rfl (by decide) ?_
  refine mm_icmp_geN (tgt := 125) rfl (by decide) (by decide) (by decide) (fun h => absurd h (by decide)) (fun _ => ?_)
  refine mm_iload_n rfl rfl ?_
  refine mm_bipush (v := nI 6) rfl (by decide) ?_
  refine mm_icmp_neN (tgt := 99) rfl (by decide) (by decide) (by decide) (fun _ => ?_) (fun h => absurd h (by decide))
  refine mm_iload_n rfl rfl ?_
  refine mm_bipush (v := nI 7) rfl (by decide) ?_
  refine mm_icmp_neN (tgt := 120) rfl (by decide) (by decide) (by decide) (fun h => absurd h (by decide)) (fun _ => ?_)
  refine mm_aload_n rfl rfl ?_
  refine mm_getI (x := nI rc) rfl rfl rfl (by decide) rfl hr ?_
  refine mm_if_eqN (tgt := 116) rfl (by decide) (by omega) (fun h109 => ?_) (fun h109 => ?_)
  · refine mm_iconst (v := nI 0) rfl (by decide) ?_
    refine mm_goto (tgt := 124) rfl (by decide) ?_
    refine mm_ireturn rfl rfl rfl (by decide) (by decide) ?_
    exact ⟨by rw [h109], rfl, rfl, rfl⟩
  · refine mm_iconst (v := nI 1) rfl (by decide) ?_
    refine mm_goto (tgt := 124) rfl (by decide) ?_
    refine mm_ireturn rfl rfl rfl (by decide) (by decide) ?_
    exact ⟨by rw [show rc = 1 by omega], rfl, rfl, rfl⟩
set_option maxRecDepth 100000 in
set_option maxHeartbeats 4000000 in
theorem sR_info9 {E : mm_E} {G : mm_G} {J : mm_J} (hG : mm_GI G) {n c : Nat} (hn : J 69 3 = nI n) (hn2 : n ≤ 100) (hc : J 69 33 = nI c) (hc1 : 4 ≤ c) (hc2 : c ≤ 20) : mm_Ret E qR_info [.ref 69, .int (nI 9)] 86 J G (some (.int (nI ((ed_rc (J 70) c n).1 + 1)))) 86 J G := by
  refine mm_Met.of qR_info_ok (by decide) (mm_cats rfl) (Nat.le_of_ble_eq_true rfl) ?_
  have hlb := ed_lb_le (f := J 70) (p := n)
  have hrc := congrArg Prod.fst (ed_rc_lb (f := J 70) (c := c) (p := n) (by omega))
  refine mm_iload_n rfl rfl ?_
  refine mm_if_ltN (tgt := 10) rfl (by decide) (by omega) ?_
  refine mm_iload_n rfl rfl ?_
  refine mm_bipush (v := nI 13) rfl (by decide) ?_
  refine mm_icmp_leN (tgt := 12) rfl (by decide) (by decide) (by decide) (fun _ => ?_) (fun h => absurd h (by decide))
  refine mm_iload_n rfl rfl ?_
  refine mm_iconst (v := nI 3) rfl (by decide) ?_
  refine mm_icmp_geN (tgt := 45) rfl (by decide) (by decide) (by decide) (fun _ => ?_) (fun h => absurd h (by decide))
  refine mm_iload_n rfl rfl ?_
  refine mm_bipush (v := nI 6) rfl (by decide) ?_
  refine mm_icmp_geN (tgt := 80) rfl (by decide) (by decide) (by decide) (fun _ => ?_) (fun h => absurd h (by decide))
  refine mm_iload_n rfl rfl ?_
  refine mm_bipush (v := nI 9) rfl (by decide) ?_
  refine mm_icmp_geN (tgt := 125) rfl (by decide) (by decide) (by decide) (fun _ => ?_) (fun h => absurd h (by decide))
  refine mm_aload_n rfl rfl ?_
  refine mm_aload_n rfl rfl ?_
  refine mm_getI (x := nI n) rfl rfl rfl (by decide) rfl hn ?_
  refine mm_isV1 (M2 := qR_lineStart) wd_725 qR_lineStart_k (by decide) (sR_lineStart hG (by omega)) rfl (by decide) (Nat.le_of_ble_eq_true rfl) (by decide) (by decide) rfl (by decide) ?_
  refine mm_istore_n rfl (by decide) ?_
  refine mm_iload_n rfl rfl ?_
  refine mm_bipush (v := nI 9) rfl (by decide) ?_
  refine mm_icmp_neN (tgt := 160) rfl (by decide) (by decide) (by decide) (fun h => absurd h (by decide)) (fun _ => ?_)
  refine mm_aload_n rfl rfl ?_
  refine mm_iload_n rfl rfl ?_
  refine mm_isV1 (M2 := qR_rowsBefore) wd_765 qR_rowsBefore_k (by decide) (sR_rowsBefore hG hn hn2 hc hc1 hc2 (ed_ls_lb _ _) (by omega)) rfl (by decide) (Nat.le_of_ble_eq_true rfl) (by decide) (by decide) rfl (by decide) ?_
  refine mm_aload_n rfl rfl ?_
  refine mm_getI (x := nI n) rfl rfl rfl (by decide) rfl hn ?_
  refine mm_iload_n rfl rfl ?_
  refine mm_isubN rfl (by omega) ?_
  refine mm_aload_n rfl rfl ?_
  refine mm_getI (x := nI c) rfl rfl rfl (by decide) rfl hc ?_
  refine mm_idivN rfl (by omega) (by omega) (by omega) ?_
  refine mm_iaddN rfl ?_
  refine mm_iconst (v := nI 1) rfl (by decide) ?_
  refine mm_iaddN rfl ?_
  refine mm_ireturn rfl rfl rfl (by decide) (by decide) ?_
  exact ⟨by rw [hrc], rfl, rfl, rfl⟩
set_option maxRecDepth 100000 in
set_option maxHeartbeats 4000000 in
theorem sR_info10 {E : mm_E} {G : mm_G} {J : mm_J} (hG : mm_GI G) {n c q f w : Nat} (hn : J 69 3 = nI n) (hn2 : n ≤ 100) (hc : J 69 33 = nI c) (hc1 : 4 ≤ c) (hc2 : c ≤ 20) (hp : J 69 5 = nI q) (hq : q ≤ n) (hf : J 69 35 = nI f) (hf2 : f ≤ 200) (hw : J 69 34 = nI w) (hw1 : 2 ≤ w) (hw2 : w ≤ 6) : mm_Ret E qR_info [.ref 69, .int (nI 10)] 86 J G (some (.int (nI (max (min f (ed_rc (J 70) c q).1) ((ed_rc (J 70) c q).1 + 1 - w))))) 86 (mm_set J 69 35 (nI (max (min f (ed_rc (J 70) c q).1) ((ed_rc (J 70) c q).1 + 1 - w)))) G := by
  refine mm_Met.of qR_info_ok (by decide) (mm_cats rfl) (Nat.le_of_ble_eq_true rfl) ?_
  refine mm_iload_n rfl rfl ?_
  refine mm_if_ltN (tgt := 10) rfl (by decide) (by omega) ?_
  refine mm_iload_n rfl rfl ?_
  refine mm_bipush (v := nI 13) rfl (by decide) ?_
  refine mm_icmp_leN (tgt := 12) rfl (by decide) (by decide) (by decide) (fun _ => ?_) (fun h => absurd h (by decide))
  refine mm_iload_n rfl rfl ?_
  refine mm_iconst (v := nI 3) rfl (by decide) ?_
  refine mm_icmp_geN (tgt := 45) rfl (by decide) (by decide) (by decide) (fun _ => ?_) (fun h => absurd h (by decide))
  refine mm_iload_n rfl rfl ?_
  refine mm_bipush (v := nI 6) rfl (by decide) ?_
  refine mm_icmp_geN (tgt := 80) rfl (by decide) (by decide) (by decide) (fun _ => ?_) (fun h => absurd h (by decide))
  refine mm_iload_n rfl rfl ?_
  refine mm_bipush (v := nI 9) rfl (by decide) ?_
  refine mm_icmp_geN (tgt := 125) rfl (by decide) (by decide) (by decide) (fun _ => ?_) (fun h => absurd h (by decide))
  refine mm_aload_n rfl rfl ?_
  refine mm_aload_n rfl rfl ?_
  refine mm_getI (x := nI n) rfl rfl rfl (by decide) rfl hn ?_
  refine mm_isV1 (M2 := qR_lineStart) wd_725 qR_lineStart_k (by decide) (sR_lineStart hG (by omega)) rfl (by decide) (Nat.le_of_ble_eq_true rfl) (by decide) (by decide) rfl (by decide) ?_
  refine mm_istore_n rfl (by decide) ?_
  refine mm_iload_n rfl rfl ?_
  refine mm_bipush (v := nI 9) rfl (by decide) ?_
  refine mm_icmp_neN (tgt := 160) rfl (by decide) (by decide) (by decide) (fun _ => ?_) (fun h => absurd h (by decide))
  refine mm_iload_n rfl rfl ?_
  refine mm_bipush (v := nI 10) rfl (by decide) ?_
  refine mm_icmp_neN (tgt := 170) rfl (by decide) (by decide) (by decide) (fun h => absurd h (by decide)) (fun _ => ?_)
  refine mm_aload_n rfl rfl ?_
  refine mm_isV0 (M2 := qR_show) wd_757 qR_show_k (by decide) (sR_show hG hn hn2 hc hc1 hc2 hp hq hf hf2 hw hw1 hw2) rfl (by decide) (Nat.le_of_ble_eq_true rfl) (by decide) (by decide) rfl (by decide) ?_
  refine mm_iload_n rfl rfl ?_
  refine mm_bipush (v := nI 12) rfl (by decide) ?_
  refine mm_icmp_geN (tgt := 194) rfl (by decide) (by decide) (by decide) (fun h => absurd h (by decide)) (fun _ => ?_)
  refine mm_iload_n rfl rfl ?_
  refine mm_bipush (v := nI 10) rfl (by decide) ?_
  refine mm_icmp_neN (tgt := 189) rfl (by decide) (by decide) (by decide) (fun h => absurd h (by decide)) (fun _ => ?_)
  refine mm_aload_n rfl rfl ?_
  refine mm_getI (x := nI (max (min f (ed_rc (J 70) c q).1) ((ed_rc (J 70) c q).1 + 1 - w))) rfl rfl rfl (by decide) rfl (by simp [mm_set]) ?_
  refine mm_goto (tgt := 193) rfl (by decide) ?_
  refine mm_ireturn rfl rfl rfl (by decide) (by decide) ?_
  exact ⟨rfl, rfl, rfl, rfl⟩
set_option maxRecDepth 100000 in
set_option maxHeartbeats 4000000 in
theorem sR_info11 {E : mm_E} {G : mm_G} {J : mm_J} (hG : mm_GI G) {n c q : Nat} (hn : J 69 3 = nI n) (hn2 : n ≤ 100) (hc : J 69 33 = nI c) (hc1 : 4 ≤ c) (hc2 : c ≤ 20) (hp : J 69 5 = nI q) (hq : q ≤ n) : mm_Ret E qR_info [.ref 69, .int (nI 11)] 86 J G (some (.int (nI (ed_rc (J 70) c q).1))) 86 J G := by
  refine mm_Met.of qR_info_ok (by decide) (mm_cats rfl) (Nat.le_of_ble_eq_true rfl) ?_
  refine mm_iload_n rfl rfl ?_
  refine mm_if_ltN (tgt := 10) rfl (by decide) (by omega) ?_
  refine mm_iload_n rfl rfl ?_
  refine mm_bipush (v := nI 13) rfl (by decide) ?_
  refine mm_icmp_leN (tgt := 12) rfl (by decide) (by decide) (by decide) (fun _ => ?_) (fun h => absurd h (by decide))
  refine mm_iload_n rfl rfl ?_
  refine mm_iconst (v := nI 3) rfl (by decide) ?_
  refine mm_icmp_geN (tgt := 45) rfl (by decide) (by decide) (by decide) (fun _ => ?_) (fun h => absurd h (by decide))
  refine mm_iload_n rfl rfl ?_
  refine mm_bipush (v := nI 6) rfl (by decide) ?_
  refine mm_icmp_geN (tgt := 80) rfl (by decide) (by decide) (by decide) (fun _ => ?_) (fun h => absurd h (by decide))
  refine mm_iload_n rfl rfl ?_
  refine mm_bipush (v := nI 9) rfl (by decide) ?_
  refine mm_icmp_geN (tgt := 125) rfl (by decide) (by decide) (by decide) (fun _ => ?_) (fun h => absurd h (by decide))
  refine mm_aload_n rfl rfl ?_
  refine mm_aload_n rfl rfl ?_
  refine mm_getI (x := nI n) rfl rfl rfl (by decide) rfl hn ?_
  refine mm_isV1 (M2 := qR_lineStart) wd_725 qR_lineStart_k (by decide) (sR_lineStart hG (by omega)) rfl (by decide) (Nat.le_of_ble_eq_true rfl) (by decide) (by decide) rfl (by decide) ?_
  refine mm_istore_n rfl (by decide) ?_
  refine mm_iload_n rfl rfl ?_
  refine mm_bipush (v := nI 9) rfl (by decide) ?_
  refine mm_icmp_neN (tgt := 160) rfl (by decide) (by decide) (by decide) (fun _ => ?_) (fun h => absurd h (by decide))
  refine mm_iload_n rfl rfl ?_
  refine mm_bipush (v := nI 10) rfl (by decide) ?_
  refine mm_icmp_neN (tgt := 170) rfl (by decide) (by decide) (by decide) (fun _ => ?_) (fun h => absurd h (by decide))
  refine mm_iload_n rfl rfl ?_
  refine mm_bipush (v := nI 12) rfl (by decide) ?_
  refine mm_icmp_geN (tgt := 194) rfl (by decide) (by decide) (by decide) (fun h => absurd h (by decide)) (fun _ => ?_)
  refine mm_iload_n rfl rfl ?_
  refine mm_bipush (v := nI 10) rfl (by decide) ?_
  refine mm_icmp_neN (tgt := 189) rfl (by decide) (by decide) (by decide) (fun _ => ?_) (fun h => absurd h (by decide))
  refine mm_aload_n rfl rfl ?_
  refine mm_isV0 (M2 := qR_pointRow) wd_761 qR_pointRow_k (by decide) (sR_pointRow hG hn hn2 hc hc1 hc2 hp hq) rfl (by decide) (Nat.le_of_ble_eq_true rfl) (by decide) (by decide) rfl (by decide) ?_
  refine mm_ireturn rfl rfl rfl (by decide) (by decide) ?_
  exact ⟨rfl, rfl, rfl, rfl⟩
set_option maxRecDepth 100000 in
set_option maxHeartbeats 4000000 in
theorem sR_info12 {E : mm_E} {G : mm_G} {J : mm_J} (hG : mm_GI G) {n : Nat} (hn : J 69 3 = nI n) (hn2 : n ≤ 100) : mm_Ret E qR_info [.ref 69, .int (nI 12)] 86 J G (some (.int (J 69 7))) 86 J G := by
  refine mm_Met.of qR_info_ok (by decide) (mm_cats rfl) (Nat.le_of_ble_eq_true rfl) ?_
  refine mm_iload_n rfl rfl ?_
  refine mm_if_ltN (tgt := 10) rfl (by decide) (by omega) ?_
  refine mm_iload_n rfl rfl ?_
  refine mm_bipush (v := nI 13) rfl (by decide) ?_
  refine mm_icmp_leN (tgt := 12) rfl (by decide) (by decide) (by decide) (fun _ => ?_) (fun h => absurd h (by decide))
  refine mm_iload_n rfl rfl ?_
  refine mm_iconst (v := nI 3) rfl (by decide) ?_
  refine mm_icmp_geN (tgt := 45) rfl (by decide) (by decide) (by decide) (fun _ => ?_) (fun h => absurd h (by decide))
  refine mm_iload_n rfl rfl ?_
  refine mm_bipush (v := nI 6) rfl (by decide) ?_
  refine mm_icmp_geN (tgt := 80) rfl (by decide) (by decide) (by decide) (fun _ => ?_) (fun h => absurd h (by decide))
  refine mm_iload_n rfl rfl ?_
  refine mm_bipush (v := nI 9) rfl (by decide) ?_
  refine mm_icmp_geN (tgt := 125) rfl (by decide) (by decide) (by decide) (fun _ => ?_) (fun h => absurd h (by decide))
  refine mm_aload_n rfl rfl ?_
  refine mm_aload_n rfl rfl ?_
  refine mm_getI (x := nI n) rfl rfl rfl (by decide) rfl hn ?_
  refine mm_isV1 (M2 := qR_lineStart) wd_725 qR_lineStart_k (by decide) (sR_lineStart hG (by omega)) rfl (by decide) (Nat.le_of_ble_eq_true rfl) (by decide) (by decide) rfl (by decide) ?_
  refine mm_istore_n rfl (by decide) ?_
  refine mm_iload_n rfl rfl ?_
  refine mm_bipush (v := nI 9) rfl (by decide) ?_
  refine mm_icmp_neN (tgt := 160) rfl (by decide) (by decide) (by decide) (fun _ => ?_) (fun h => absurd h (by decide))
  refine mm_iload_n rfl rfl ?_
  refine mm_bipush (v := nI 10) rfl (by decide) ?_
  refine mm_icmp_neN (tgt := 170) rfl (by decide) (by decide) (by decide) (fun _ => ?_) (fun h => absurd h (by decide))
  refine mm_iload_n rfl rfl ?_
  refine mm_bipush (v := nI 12) rfl (by decide) ?_
  refine mm_icmp_geN (tgt := 194) rfl (by decide) (by decide) (by decide) (fun _ => ?_) (fun h => absurd h (by decide))
  refine mm_iload_n rfl rfl ?_
  refine mm_bipush (v := nI 12) rfl (by decide) ?_
  refine mm_icmp_neN (tgt := 207) rfl (by decide) (by decide) (by decide) (fun h => absurd h (by decide)) (fun _ => ?_)
  refine mm_aload_n rfl rfl ?_
  refine mm_getI rfl rfl rfl (by decide) rfl rfl ?_
  refine mm_goto (tgt := 211) rfl (by decide) ?_
  refine mm_ireturn rfl rfl rfl (by decide) (by decide) ?_
  exact ⟨rfl, rfl, rfl, rfl⟩
set_option maxRecDepth 100000 in
set_option maxHeartbeats 4000000 in
theorem sR_info13 {E : mm_E} {G : mm_G} {J : mm_J} (hG : mm_GI G) {n : Nat} (hn : J 69 3 = nI n) (hn2 : n ≤ 100) : mm_Ret E qR_info [.ref 69, .int (nI 13)] 86 J G (some (.int (J 69 8))) 86 J G := by
  refine mm_Met.of qR_info_ok (by decide) (mm_cats rfl) (Nat.le_of_ble_eq_true rfl) ?_
  refine mm_iload_n rfl rfl ?_
  refine mm_if_ltN (tgt := 10) rfl (by decide) (by omega) ?_
  refine mm_iload_n rfl rfl ?_
  refine mm_bipush (v := nI 13) rfl (by decide) ?_
  refine mm_icmp_leN (tgt := 12) rfl (by decide) (by decide) (by decide) (fun _ => ?_) (fun h => absurd h (by decide))
  refine mm_iload_n rfl rfl ?_
  refine mm_iconst (v := nI 3) rfl (by decide) ?_
  refine mm_icmp_geN (tgt := 45) rfl (by decide) (by decide) (by decide) (fun _ => ?_) (fun h => absurd h (by decide))
  refine mm_iload_n rfl rfl ?_
  refine mm_bipush (v := nI 6) rfl (by decide) ?_
  refine mm_icmp_geN (tgt := 80) rfl (by decide) (by decide) (by decide) (fun _ => ?_) (fun h => absurd h (by decide))
  refine mm_iload_n rfl rfl ?_
  refine mm_bipush (v := nI 9) rfl (by decide) ?_
  refine mm_icmp_geN (tgt := 125) rfl (by decide) (by decide) (by decide) (fun _ => ?_) (fun h => absurd h (by decide))
  refine mm_aload_n rfl rfl ?_
  refine mm_aload_n rfl rfl ?_
  refine mm_getI (x := nI n) rfl rfl rfl (by decide) rfl hn ?_
  refine mm_isV1 (M2 := qR_lineStart) wd_725 qR_lineStart_k (by decide) (sR_lineStart hG (by omega)) rfl (by decide) (Nat.le_of_ble_eq_true rfl) (by decide) (by decide) rfl (by decide) ?_
  refine mm_istore_n rfl (by decide) ?_
  refine mm_iload_n rfl rfl ?_
  refine mm_bipush (v := nI 9) rfl (by decide) ?_
  refine mm_icmp_neN (tgt := 160) rfl (by decide) (by decide) (by decide) (fun _ => ?_) (fun h => absurd h (by decide))
  refine mm_iload_n rfl rfl ?_
  refine mm_bipush (v := nI 10) rfl (by decide) ?_
  refine mm_icmp_neN (tgt := 170) rfl (by decide) (by decide) (by decide) (fun _ => ?_) (fun h => absurd h (by decide))
  refine mm_iload_n rfl rfl ?_
  refine mm_bipush (v := nI 12) rfl (by decide) ?_
  refine mm_icmp_geN (tgt := 194) rfl (by decide) (by decide) (by decide) (fun _ => ?_) (fun h => absurd h (by decide))
  refine mm_iload_n rfl rfl ?_
  refine mm_bipush (v := nI 12) rfl (by decide) ?_
  refine mm_icmp_neN (tgt := 207) rfl (by decide) (by decide) (by decide) (fun _ => ?_) (fun h => absurd h (by decide))
  refine mm_aload_n rfl rfl ?_
  refine mm_getI rfl rfl rfl (by decide) rfl rfl ?_
  refine mm_ireturn rfl rfl rfl (by decide) (by decide) ?_
  exact ⟨rfl, rfl, rfl, rfl⟩
set_option maxRecDepth 100000 in
set_option maxHeartbeats 4000000 in
theorem sR_infoX {E : mm_E} {G : mm_G} {J : mm_J} {x : Int32} (h : x < 0 ∨ nI 13 < x) : mm_Ret E qR_info [.ref 69, .int x] 86 J G (some (.int (-1))) 86 J G := by
  refine mm_Met.of qR_info_ok (by decide) (mm_cats rfl) (Nat.le_of_ble_eq_true rfl) ?_
  refine mm_iload_n rfl rfl ?_
  refine mm_if_lt (tgt := 10) rfl (by decide) (fun h1 => ?_) (fun h1 => ?_)
  · refine mm_iconst (v := -1) rfl (by decide) ?_
    refine mm_ireturn rfl rfl rfl (by decide) (by decide) ?_
    exact ⟨rfl, rfl, rfl, rfl⟩
  · refine mm_iload_n rfl rfl ?_
    refine mm_bipush (v := nI 13) rfl (by decide) ?_
    refine mm_icmp_le (tgt := 12) rfl (by decide) (fun h7 => ?_) (fun h7 => ?_)
    · exact h.elim (fun q => absurd q h1) (fun q => absurd h7 (Int32.not_le.mpr q))
    · refine mm_iconst (v := -1) rfl (by decide) ?_
      refine mm_ireturn rfl rfl rfl (by decide) (by decide) ?_
      exact ⟨rfl, rfl, rfl, rfl⟩
