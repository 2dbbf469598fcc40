theorem ed_x20 : ∀ a, a < 20 → (0 : Int32) ≤ nI a ^^^ nI 20 := by decide +kernel
theorem mm_sy : ∀ k, k < 20 → mm_SH (20 + 2 * k) = .inl 2 := by decide
theorem ed_mod {m : Nat} : m % 20 < 20 := Nat.mod_lt _ (by decide)
theorem ed_k1 {m u : Nat} (hm : m < 2 ^ 30) (hu : u < 2 ^ 30) (h : m < u + 20) : ¬ nI u ≤ nI m - nI 20 := by
  rw [Int32.le_iff_toInt_le, pk_sub_toInt hm (by decide), nI_toInt (by omega)]
  omega
theorem ed_k2 {m u : Nat} (hm : m < 2 ^ 30) (hu : u < 2 ^ 30) (h : u + 20 ≤ m) : nI u ≤ nI m - nI 20 := by
  rw [Int32.le_iff_toInt_le, pk_sub_toInt hm (by decide), nI_toInt (by omega)]
  omega
/-- the places behind an edit, those below i done -/
def ed_pl (J : mm_J) (p d s i : Nat) : mm_J := fun a b => if a = 4 ∧ b < i then ed_pm (J 4 b) (J 5 b) p d s else J a b
theorem ed_pl_s (J : mm_J) (p d s i : Nat) : mm_set (ed_pl J p d s i) 4 i (ed_pm (J 4 i) (J 5 i) p d s) = ed_pl J p d s (i + 1) := by
  funext a b
  unfold mm_set ed_pl
  by_cases ha : a = 4
  · subst ha
    by_cases hb : b = i
    · subst hb
      simp
    · by_cases h : b < i
      · simp [hb, h, Nat.lt_succ_of_lt h]
      · simp [hb, h, show ¬ b < i + 1 by omega]
  · simp [ha]
theorem ed_pl_0 (J : mm_J) (p d s : Nat) : ed_pl J p d s 0 = J := by
  funext a b
  simp [ed_pl]
def ed_vp (o : Int32) : Prop := o = -2 ∨ ∃ m, m ≤ 100 ∧ o = nI m
def ed_vb (o : Int32) : Prop := ∃ m, m < 2 ∧ o = nI m
theorem mm_J_eq {E : mm_E} {M : mm_M} {pc : Nat} {lv : List (Option Value)} {st : List Value} {n : Nat} {J J2 : mm_J} {G : mm_G} {cs sl : Nat} {F : mm_F} (h : J = J2) (k : mm_Go E M pc lv st n J2 G cs sl F) : mm_Go E M pc lv st n J G cs sl F := h ▸ k
/-- an edit of the class's text: d characters behind p out, the s of cell x in -/
def ed_rp (J : mm_J) (x n p d s : Nat) : mm_J := ed_pl (mm_set (mm_cp (mm_cp J 3 3 (p + d) (p + s) (n - (p + d))) (x + 1) 3 0 p s) 2 1 (nI (n - d + s))) p d s 5
/-- a new step of the class's history -/
def ed_st (J : mm_J) (m p d s : Nat) : mm_J := mm_set (mm_cp (mm_set (mm_set (mm_set (mm_set J 16 3 (nI (m + 1))) 17 ((m + 1) % 20) (nI p)) 18 ((m + 1) % 20) (nI s)) (20 + 2 * ((m + 1) % 20)) 1 (nI 0)) 3 (20 + 2 * ((m + 1) % 20) + 1) p 0 d) (20 + 2 * ((m + 1) % 20)) 1 (nI d)
theorem mm_MetF {E : mm_E} {M : mm_M} {as : List Value} {n : Nat} {J : mm_J} {G : mm_G} {Post : mm_T} (hok : mm_ok M) (hpl : plainFor (mm_y M) = true) (hc : ∀ v ∈ as, v.category = 1) (hn : as.length ≤ mm_n M) (h : mm_Go E M 0 (as.map some ++ List.replicate (mm_n M - as.length) none) [] n J G 0 0 (mm_Fm E M Post)) : mm_Met E M as n J G Post := by
  unfold mm_Met Met
  refine MetFree.of_bodySF (code := mm_c M) (maxLocals := mm_n M) (ret := mm_r M) hpl ?_ ?_
  · intro args s m h hn
    obtain ⟨meth, c, h1, h2, h3, h4, h5, h6, -, -⟩ := Cond.code_spec hn (atoms_spec (ws := mm_w M) h _ List.mem_cons_self)
    exact ⟨meth, c, h1, h2, h3, h4, h5, h6⟩
  · intro p e s m a below meth c s₁ B hml hv _
    have hh0 : s₁.heap = s.heap := by rw [B.state]; rfl
    obtain ⟨rfl, hW, hK⟩ := hv
    have K := h p e s m _ below meth c s.heap [] _ ⟨B.exec, B.bytes, B.returns, hml, findClass_of_methodNamed B.named, B.notSynchronized, fun w hw => atoms_spec (ws := mm_w M) B.pre w (List.mem_cons_of_mem _ hw), fun e9 => (name_of_methodNamed B.named B.method).1.trans e9, hK, by rw [hW.1]; omega, hok⟩ trivial (mm_L.entry as hc hn) hW va_S.rf
    rw [lg_entry_eq]
    obtain ⟨t, a1, o, b1, b2, b3⟩ := K s₁ hh0 (Stand.of_body B)
    exact ⟨t, o, a1, b1, b2, ⟨b3.1, b3.2⟩⟩
theorem ed_xm (m : Nat) (hm : m < 2 ^ 31) : (0 : Int32) ≤ nI m ^^^ nI 20 := by
  rw [Int32.le_iff_toInt_le]
  have e : (nI m ^^^ nI 20).toBitVec = BitVec.ofNat 32 m ^^^ BitVec.ofNat 32 20 := rfl
  have h1 : (nI m ^^^ nI 20).toBitVec.msb = false := by
    rw [e, BitVec.msb_xor]
    have a1 : (BitVec.ofNat 32 m).msb = false := by
      rw [BitVec.msb_eq_false_iff_two_mul_lt, BitVec.toNat_ofNat]
      omega
    rw [a1]
    rfl
  show (0 : Int32).toInt ≤ (nI m ^^^ nI 20).toBitVec.toInt
  rw [BitVec.toInt_eq_toNat_of_msb h1]
  exact Int.natCast_nonneg _
set_option maxRecDepth 100000 in
set_option maxHeartbeats 4000000 in
theorem sJ_floorMod {E : mm_E} {G : mm_G} {J : mm_J} {m : Nat} (hm : m < 2 ^ 31) : mm_Ret E qJ_floorMod [.int (nI m), .int (nI 20)] 86 J G (some (.int (nI (m % 20)))) 86 J G := by
  refine mm_MetF qJ_floorMod_ok (by decide +kernel) (mm_cats rfl) (Nat.le_of_ble_eq_true rfl) ?_
  refine mm_iload_n rfl rfl ?_
  refine mm_iload_n rfl rfl ?_
  refine mm_iremN rfl (by omega) (by omega) (by omega) ?_
  refine mm_istore_n rfl (by decide) ?_
  refine mm_iload_n rfl rfl ?_
  refine mm_iload_n rfl rfl ?_
  refine mm_ixor rfl ?_
  refine mm_if_ge (tgt := 18) rfl (by decide) (fun h7 => ?_) (fun h7 => ?_)
  · refine mm_iload_n rfl rfl ?_
    refine mm_ireturn rfl rfl rfl (by decide) (by decide) ?_
    exact ⟨rfl, rfl, rfl, rfl⟩
  · exact absurd (ed_xm m hm) h7
set_option maxRecDepth 100000 in
set_option maxHeartbeats 4000000 in
theorem sH_slotOf {E : mm_E} {G : mm_G} {J : mm_J} {m : Nat} (hm : m < 2 ^ 31) : mm_Ret E qH_slotOf [.int (nI m)] 86 J G (some (.int (nI (m % 20)))) 86 J G := by
  refine mm_Met.of qH_slotOf_ok (by decide) (mm_cats rfl) (Nat.le_of_ble_eq_true rfl) ?_
  refine mm_iload_n rfl rfl ?_
  refine mm_bipush (v := nI 20) rfl (by decide) ?_
  refine mm_isS2 (M2 := qJ_floorMod) wd_237 qJ_floorMod_k (by decide) (sJ_floorMod hm) (Nat.le_of_ble_eq_true rfl) (by decide) (by decide) rfl (by decide) ?_
  refine mm_ireturn rfl rfl rfl (by decide) (by decide) ?_
  exact ⟨rfl, rfl, rfl, rfl⟩
set_option maxRecDepth 100000 in
set_option maxHeartbeats 4000000 in
theorem sH_latestPut {E : mm_E} {G : mm_G} {J : mm_J} (hG : mm_GI G) {m q : Nat} (hm : J 16 3 = nI m) (hm2 : m < 2 ^ 31) (hq : J 18 (m % 20) = nI q) : mm_Ret E qH_latestPut [.ref 16] 86 J G (some (.int (nI q))) 86 J G := by
  refine mm_Met.of qH_latestPut_ok (by decide) (mm_cats rfl) (Nat.le_of_ble_eq_true rfl) ?_
  refine mm_aload_n rfl rfl ?_
  refine mm_getR rfl rfl rfl (by decide) rfl (mm_gi hG 16 1 18 (by decide)) ?_
  refine mm_aload_n rfl rfl ?_
  refine mm_getI (x := nI m) rfl rfl rfl (by decide) rfl hm ?_
  refine mm_isS1 (M2 := qH_slotOf) wd_234 qH_slotOf_k (by decide) (sH_slotOf hm2) (Nat.le_of_ble_eq_true rfl) (by decide) (by decide) rfl (by decide) ?_
  refine mm_rdN rfl (by decide) rfl (by decide) ed_mod (by decide) rfl hq ?_
  refine mm_ireturn rfl rfl rfl (by decide) (by decide) ?_
  exact ⟨rfl, rfl, rfl, rfl⟩
set_option maxRecDepth 100000 in
set_option maxHeartbeats 4000000 in
theorem sH_keeps1 {E : mm_E} {G : mm_G} {J : mm_J} (hG : mm_GI G) {m u : Nat} (hm : J 16 3 = nI m) (hm2 : m < 2 ^ 30) (h1 : 1 ≤ u) (h2 : u ≤ m) (h3 : m < u + 20) : mm_Ret E qH_keeps [.ref 16, .int (nI u)] 86 J G (some (.int (nI 1))) 86 J G := by
  refine mm_Met.of qH_keeps_ok (by decide) (mm_cats rfl) (Nat.le_of_ble_eq_true rfl) ?_
  refine mm_iload_n rfl rfl ?_
  refine mm_iconst (v := nI 1) rfl (by decide) ?_
  refine mm_icmp_ltN (tgt := 28) rfl (by decide) (by omega) (by omega) (fun hh2 => ?_) (fun hh2 => ?_)
  · exact absurd hh2 (by omega)
  · refine mm_iload_n rfl rfl ?_
    refine mm_aload_n rfl rfl ?_
    refine mm_getI (x := nI m) rfl rfl rfl (by decide) rfl hm ?_
    refine mm_icmp_gtN (tgt := 28) rfl (by decide) (by omega) (by omega) (fun h10 => ?_) (fun h10 => ?_)
    · exact absurd h10 (by omega)
    · refine mm_iload_n rfl rfl ?_
      refine mm_aload_n rfl rfl ?_
      refine mm_getI (x := nI m) rfl rfl rfl (by decide) rfl hm ?_
      refine mm_bipush (v := nI 20) rfl (by decide) ?_
      refine mm_isub rfl ?_
      refine mm_icmp_le (tgt := 28) rfl (by decide) (fun h21 => ?_) (fun h21 => ?_)
      · exact absurd h21 (ed_k1 (by omega) (by omega) h3)
      · refine mm_iconst (v := nI 1) rfl (by decide) ?_
        refine mm_goto (tgt := 29) rfl (by decide) ?_
        refine mm_ireturn rfl rfl rfl (by decide) (by decide) ?_
        exact ⟨rfl, rfl, rfl, rfl⟩
set_option maxRecDepth 100000 in
set_option maxHeartbeats 4000000 in
theorem sH_keeps0 {E : mm_E} {G : mm_G} {J : mm_J} (hG : mm_GI G) {m u : Nat} (hm : J 16 3 = nI m) (hm2 : m < 2 ^ 30) (hu : u ≤ m) (h1 : u = 0 ∨ u + 20 ≤ m) : mm_Ret E qH_keeps [.ref 16, .int (nI u)] 86 J G (some (.int (nI 0))) 86 J G := by
  refine mm_Met.of qH_keeps_ok (by decide) (mm_cats rfl) (Nat.le_of_ble_eq_true rfl) ?_
  refine mm_iload_n rfl rfl ?_
  refine mm_iconst (v := nI 1) rfl (by decide) ?_
  refine mm_icmp_ltN (tgt := 28) rfl (by decide) (by omega) (by omega) (fun hh2 => ?_) (fun hh2 => ?_)
  · refine mm_iconst (v := nI 0) rfl (by decide) ?_
    refine mm_ireturn rfl rfl rfl (by decide) (by decide) ?_
    exact ⟨rfl, rfl, rfl, rfl⟩
  · refine mm_iload_n rfl rfl ?_
    refine mm_aload_n rfl rfl ?_
    refine mm_getI (x := nI m) rfl rfl rfl (by decide) rfl hm ?_
    refine mm_icmp_gtN (tgt := 28) rfl (by decide) (by omega) (by omega) (fun h10 => ?_) (fun h10 => ?_)
    · exact absurd h10 (by omega)
    · refine mm_iload_n rfl rfl ?_
      refine mm_aload_n rfl rfl ?_
      refine mm_getI (x := nI m) rfl rfl rfl (by decide) rfl hm ?_
      refine mm_bipush (v := nI 20) rfl (by decide) ?_
      refine mm_isub rfl ?_
      refine mm_icmp_le (tgt := 28) rfl (by decide) (fun h21 => ?_) (fun h21 => ?_)
      · refine mm_iconst (v := nI 0) rfl (by decide) ?_
        refine mm_ireturn rfl rfl rfl (by decide) (by decide) ?_
        exact ⟨rfl, rfl, rfl, rfl⟩
      · exact absurd (ed_k2 (by omega) (by omega) (by omega)) h21
set_option maxRecDepth 100000 in
set_option maxHeartbeats 4000000 in
theorem sT_takes1 {E : mm_E} {G : mm_G} {J : mm_J} (hG : mm_GI G) {x : Nat} (hx : mm_SH x = .inl 2) {n p d s : Nat} (hn : J 2 1 = nI n) (hn2 : n ≤ 100) (hs : J x 1 = nI s) (hs2 : s ≤ 100) (hpd : p + d ≤ n) (h : n - d + s ≤ 100) : mm_Ret E qT_takes [.ref 1, .int (nI p), .int (nI d), .ref x] 86 J G (some (.int (nI 1))) 86 J G := by
  refine mm_Met.of qT_takes_ok (by decide) (mm_cats rfl) (Nat.le_of_ble_eq_true rfl) ?_
  refine mm_iload_n rfl rfl ?_
  refine mm_if_ltN (tgt := 44) rfl (by decide) (by omega) ?_
  refine mm_iload_n rfl rfl ?_
  refine mm_if_ltN (tgt := 44) rfl (by decide) (by omega) ?_
  refine mm_iload_n rfl rfl ?_
  refine mm_iload_n rfl rfl ?_
  refine mm_iaddN rfl ?_
  refine mm_aload_n rfl rfl ?_
  refine mm_getR rfl rfl rfl (by decide) rfl (mm_gi hG 1 0 2 (by decide)) ?_
  refine mm_getI (x := nI n) rfl rfl rfl (by decide) rfl hn ?_
  refine mm_icmp_gtN (tgt := 44) rfl (by decide) (by omega) (by omega) (fun h18 => ?_) (fun h18 => ?_)
  · exact absurd h18 (by omega)
  · refine mm_aload_n rfl rfl ?_
    refine mm_getR rfl rfl rfl (by decide) rfl (mm_gi hG 1 0 2 (by decide)) ?_
    refine mm_getI (x := nI n) rfl rfl rfl (by decide) rfl hn ?_
    refine mm_iload_n rfl rfl ?_
    refine mm_isubN rfl (by omega) ?_
    refine mm_aload_n rfl rfl ?_
    refine mm_getI (x := nI s) rfl rfl hx (mm_l1 hx) rfl hs ?_
    refine mm_iaddN rfl ?_
    refine mm_bipush (v := nI 100) rfl (by decide) ?_
    refine mm_icmp_gtN (tgt := 44) rfl (by decide) (by omega) (by omega) (fun h37 => ?_) (fun h37 => ?_)
    · exact absurd h37 (by omega)
    · refine mm_iconst (v := nI 1) rfl (by decide) ?_
      refine mm_goto (tgt := 45) rfl (by decide) ?_
      refine mm_ireturn rfl rfl rfl (by decide) (by decide) ?_
      exact ⟨rfl, rfl, rfl, rfl⟩
set_option maxRecDepth 100000 in
set_option maxHeartbeats 4000000 in
theorem sT_takes0 {E : mm_E} {G : mm_G} {J : mm_J} (hG : mm_GI G) {x : Nat} (hx : mm_SH x = .inl 2) {n p d s : Nat} (hn : J 2 1 = nI n) (hn2 : n ≤ 100) (hs : J x 1 = nI s) (hs2 : s ≤ 100) (hpd : p + d ≤ n) (h : 100 < n - d + s) : mm_Ret E qT_takes [.ref 1, .int (nI p), .int (nI d), .ref x] 86 J G (some (.int (nI 0))) 86 J G := by
  refine mm_Met.of qT_takes_ok (by decide) (mm_cats rfl) (Nat.le_of_ble_eq_true rfl) ?_
  refine mm_iload_n rfl rfl ?_
  refine mm_if_ltN (tgt := 44) rfl (by decide) (by omega) ?_
  refine mm_iload_n rfl rfl ?_
  refine mm_if_ltN (tgt := 44) rfl (by decide) (by omega) ?_
  refine mm_iload_n rfl rfl ?_
  refine mm_iload_n rfl rfl ?_
  refine mm_iaddN rfl ?_
  refine mm_aload_n rfl rfl ?_
  refine mm_getR rfl rfl rfl (by decide) rfl (mm_gi hG 1 0 2 (by decide)) ?_
  refine mm_getI (x := nI n) rfl rfl rfl (by decide) rfl hn ?_
  refine mm_icmp_gtN (tgt := 44) rfl (by decide) (by omega) (by omega) (fun h18 => ?_) (fun h18 => ?_)
  · exact absurd h18 (by omega)
  · refine mm_aload_n rfl rfl ?_
    refine mm_getR rfl rfl rfl (by decide) rfl (mm_gi hG 1 0 2 (by decide)) ?_
    refine mm_getI (x := nI n) rfl rfl rfl (by decide) rfl hn ?_
    refine mm_iload_n rfl rfl ?_
    refine mm_isubN rfl (by omega) ?_
    refine mm_aload_n rfl rfl ?_
    refine mm_getI (x := nI s) rfl rfl hx (mm_l1 hx) rfl hs ?_
    refine mm_iaddN rfl ?_
    refine mm_bipush (v := nI 100) rfl (by decide) ?_
    refine mm_icmp_gtN (tgt := 44) rfl (by decide) (by omega) (by omega) (fun h37 => ?_) (fun h37 => ?_)
    · refine mm_iconst (v := nI 0) rfl (by decide) ?_
      refine mm_ireturn rfl rfl rfl (by decide) (by decide) ?_
      exact ⟨rfl, rfl, rfl, rfl⟩
    · exact absurd h37 (by omega)
set_option maxRecDepth 100000 in
set_option maxHeartbeats 4000000 in
theorem sT_moved1 {E : mm_E} {G : mm_G} {J : mm_J} {m fb p d s : Nat} (hm : m ≤ 100) (hfb : fb < 2) (hp : p + d ≤ 100) (hs : s ≤ 100) : mm_Ret E qT_moved [.int (nI m), .int (nI fb), .int (nI p), .int (nI d), .int (nI s)] 86 J G (some (.int (nI (ed_mv m fb p d s)))) 86 J G := by
  refine mm_Met.of qT_moved_ok (by decide) (mm_cats rfl) (Nat.le_of_ble_eq_true rfl) ?_
  refine mm_iload_n rfl rfl ?_
  refine mm_iload_n rfl rfl ?_
  refine mm_icmp_ltN (tgt := 18) rfl (by decide) (by omega) (by omega) (fun h2 => ?_) (fun h2 => ?_)
  · refine mm_iload_n rfl rfl ?_
    refine mm_ireturn rfl rfl rfl (by decide) (by decide) ?_
    exact ⟨by rw [show ed_mv m fb p d s = m from by unfold ed_mv; (repeat' split) <;> omega], rfl, rfl, rfl⟩
  · refine mm_iload_n rfl rfl ?_
    refine mm_iload_n rfl rfl ?_
    refine mm_icmp_neN (tgt := 20) rfl (by decide) (by omega) (by omega) (fun h7 => ?_) (fun h7 => ?_)
    · refine mm_iload_n rfl rfl ?_
      refine mm_iload_n rfl rfl ?_
      refine mm_icmp_leN (tgt := 34) rfl (by decide) (by omega) (by omega) (fun h22 => ?_) (fun h22 => ?_)
      · refine mm_iload_n rfl rfl ?_
        refine mm_iload rfl rfl ?_
        refine mm_iaddN rfl ?_
        refine mm_iload_n rfl rfl ?_
        refine mm_isubN rfl (by omega) ?_
        refine mm_ireturn rfl rfl rfl (by decide) (by decide) ?_
        exact ⟨by rw [show ed_mv m fb p d s = m + s - d from by unfold ed_mv; (repeat' split) <;> omega], rfl, rfl, rfl⟩
      · refine mm_iload_n rfl rfl ?_
        refine mm_iload_n rfl rfl ?_
        refine mm_iload_n rfl rfl ?_
        refine mm_iaddN rfl ?_
        refine mm_icmp_geN (tgt := 34) rfl (by decide) (by omega) (by omega) (fun h29 => ?_) (fun h29 => ?_)
        · refine mm_iload_n rfl rfl ?_
          refine mm_iload rfl rfl ?_
          refine mm_iaddN rfl ?_
          refine mm_iload_n rfl rfl ?_
          refine mm_isubN rfl (by omega) ?_
          refine mm_ireturn rfl rfl rfl (by decide) (by decide) ?_
          exact ⟨by rw [show ed_mv m fb p d s = m + s - d from by unfold ed_mv; (repeat' split) <;> omega], rfl, rfl, rfl⟩
        · refine mm_iload_n rfl rfl ?_
          refine mm_ireturn rfl rfl rfl (by decide) (by decide) ?_
          exact ⟨by rw [show ed_mv m fb p d s = p from by unfold ed_mv; (repeat' split) <;> omega], rfl, rfl, rfl⟩
    · refine mm_iload_n rfl rfl ?_
      refine mm_if_gtN (tgt := 18) rfl (by decide) (by omega) (fun h11 => ?_) (fun h11 => ?_)
      · refine mm_iload_n rfl rfl ?_
        refine mm_ireturn rfl rfl rfl (by decide) (by decide) ?_
        exact ⟨by rw [show ed_mv m fb p d s = m from by unfold ed_mv; (repeat' split) <;> omega], rfl, rfl, rfl⟩
      · refine mm_iload_n rfl rfl ?_
        refine mm_if_neN (tgt := 20) rfl (by decide) (by omega) (fun h15 => ?_) (fun h15 => ?_)
        · refine mm_iload_n rfl rfl ?_
          refine mm_iload_n rfl rfl ?_
          refine mm_icmp_leN (tgt := 34) rfl (by decide) (by omega) (by omega) (fun h22 => ?_) (fun h22 => ?_)
          · refine mm_iload_n rfl rfl ?_
            refine mm_iload rfl rfl ?_
            refine mm_iaddN rfl ?_
            refine mm_iload_n rfl rfl ?_
            refine mm_isubN rfl (by omega) ?_
            refine mm_ireturn rfl rfl rfl (by decide) (by decide) ?_
            exact ⟨by rw [show ed_mv m fb p d s = m + s - d from by unfold ed_mv; (repeat' split) <;> omega], rfl, rfl, rfl⟩
          · refine mm_iload_n rfl rfl ?_
            refine mm_iload_n rfl rfl ?_
            refine mm_iload_n rfl rfl ?_
            refine mm_iaddN rfl ?_
            refine mm_icmp_geN (tgt := 34) rfl (by decide) (by omega) (by omega) (fun h29 => ?_) (fun h29 => ?_)
            · refine mm_iload_n rfl rfl ?_
              refine mm_iload rfl rfl ?_
              refine mm_iaddN rfl ?_
              refine mm_iload_n rfl rfl ?_
              refine mm_isubN rfl (by omega) ?_
              refine mm_ireturn rfl rfl rfl (by decide) (by decide) ?_
              exact ⟨by rw [show ed_mv m fb p d s = m + s - d from by unfold ed_mv; (repeat' split) <;> omega], rfl, rfl, rfl⟩
            · refine mm_iload_n rfl rfl ?_
              refine mm_ireturn rfl rfl rfl (by decide) (by decide) ?_
              exact ⟨by rw [show ed_mv m fb p d s = p from by unfold ed_mv; (repeat' split) <;> omega], rfl, rfl, rfl⟩
        · refine mm_iload_n rfl rfl ?_
          refine mm_ireturn rfl rfl rfl (by decide) (by decide) ?_
          exact ⟨by rw [show ed_mv m fb p d s = m from by unfold ed_mv; (repeat' split) <;> omega], rfl, rfl, rfl⟩
set_option maxRecDepth 100000 in
set_option maxHeartbeats 4000000 in
theorem sT_moved2 {E : mm_E} {G : mm_G} {J : mm_J} {p d s : Nat} {fo : Int32} (hp : p < 2 ^ 31) : mm_Ret E qT_moved [.int (-2), .int fo, .int (nI p), .int (nI d), .int (nI s)] 86 J G (some (.int (-2))) 86 J G := by
  refine mm_Met.of qT_moved_ok (by decide) (mm_cats rfl) (Nat.le_of_ble_eq_true rfl) ?_
  refine mm_iload_n rfl rfl ?_
  refine mm_iload_n rfl rfl ?_
  refine mm_icmp_lt (tgt := 18) rfl (by decide) (fun h2 => ?_) (fun h2 => ?_)
  · refine mm_iload_n rfl rfl ?_
    refine mm_ireturn rfl rfl rfl (by decide) (by decide) ?_
    exact ⟨rfl, rfl, rfl, rfl⟩
  · exact absurd (ed_m2 hp) h2
theorem sT_moved {E : mm_E} {G : mm_G} {J : mm_J} {o fo : Int32} {p d s : Nat} (ho : ed_vp o) (hf : ed_vb fo) (hp : p + d ≤ 100) (hs : s ≤ 100) : mm_Ret E qT_moved [.int o, .int fo, .int (nI p), .int (nI d), .int (nI s)] 86 J G (some (.int (ed_pm o fo p d s))) 86 J G := by
  rcases ho with rfl | ⟨m, hm, rfl⟩
  · exact sT_moved2 (by omega)
  · obtain ⟨fb, hfb, rfl⟩ := hf
    rw [show ed_pm (nI m) (nI fb) p d s = nI (ed_mv m fb p d s) from by
      unfold ed_pm
      rw [if_neg (ed_m2n (by omega)), nI_clamp (by omega), nI_clamp (by omega)]]
    exact sT_moved1 hm hfb hp hs
set_option maxRecDepth 100000 in
set_option maxHeartbeats 4000000 in
theorem lT_replace {E : mm_E} {G : mm_G} {J : mm_J} (hG : mm_GI G) {x : Nat} (hx : mm_SH x = .inl 2) (hx4 : ¬ x = 4) {p d s : Nat} {gr : Int32} (hs : J x 1 = nI s) (hs2 : s ≤ 100) (hpd : p + d ≤ 100) (hpl : ∀ i, i < 5 → ed_vp (J 4 i)) (hfo : ∀ i, i < 5 → ed_vb (J 5 i)) : ∀ (k i : Nat), 5 - i = k → i ≤ 5 → mm_Go E qT_replace 84 [some (.ref 1), some (.int (nI p)), some (.int (nI d)), some (.ref x), some (.int (nI (p + d))), some (.int gr), some (.int (nI i))] [] 86 (ed_pl J p d s i) G 0 0 (mm_Fm E qT_replace (mm_is none 86 (ed_pl J p d s 5) G))
  | 0, i, hk, hi => by
    refine mm_iload rfl rfl ?_
    refine mm_aload_n rfl rfl ?_
    refine mm_getR rfl rfl rfl (by decide) rfl (mm_gi hG 1 1 4 (by decide)) ?_
    refine mm_len (v := nI 5) rfl (by decide) (by decide) rfl rfl ?_
    refine mm_icmp_geN (tgt := 130) rfl (by decide) (by omega) (by omega) (fun h91 => ?_) (fun h91 => ?_)
    · refine mm_return rfl rfl (by decide) (by decide) ?_
      exact ⟨rfl, rfl, by rw [show i = 5 by omega], rfl⟩
    · exact absurd h91 (by omega)
  | k + 1, i, hk, hi => by
    refine mm_iload rfl rfl ?_
    refine mm_aload_n rfl rfl ?_
    refine mm_getR rfl rfl rfl (by decide) rfl (mm_gi hG 1 1 4 (by decide)) ?_
    refine mm_len (v := nI 5) rfl (by decide) (by decide) rfl rfl ?_
    refine mm_icmp_geN (tgt := 130) rfl (by decide) (by omega) (by omega) (fun h91 => ?_) (fun h91 => ?_)
    · exact absurd h91 (by omega)
    · refine mm_aload_n rfl rfl ?_
      refine mm_getR rfl rfl rfl (by decide) rfl (mm_gi hG 1 1 4 (by decide)) ?_
      refine mm_iload rfl rfl ?_
      refine mm_aload_n rfl rfl ?_
      refine mm_getR rfl rfl rfl (by decide) rfl (mm_gi hG 1 1 4 (by decide)) ?_
      refine mm_iload rfl rfl ?_
      refine mm_rdN (x := J 4 i) rfl (by decide) rfl (by decide) (by omega) (by decide) rfl (by simp [ed_pl]) ?_
      refine mm_aload_n rfl rfl ?_
      refine mm_getR rfl rfl rfl (by decide) rfl (mm_gi hG 1 2 5 (by decide)) ?_
      refine mm_iload rfl rfl ?_
      refine mm_rzN (x := J 5 i) rfl (by decide) rfl (by decide) (by omega) (by decide) rfl (by simp [ed_pl]) ?_
      refine mm_iload_n rfl rfl ?_
      refine mm_iload_n rfl rfl ?_
      refine mm_aload_n rfl rfl ?_
      refine mm_getI (x := nI s) rfl rfl hx (mm_l1 hx) rfl (by simp [ed_pl, hx4, hs]) ?_
      refine mm_isS5 (M2 := qT_moved) wd_261 qT_moved_k (by decide) (sT_moved (hpl i (by omega)) (hfo i (by omega)) hpd hs2) (Nat.le_of_ble_eq_true rfl) (by decide) (by decide) rfl (by decide) ?_
      refine mm_wrN rfl (by decide) rfl (by decide) (by omega) (by decide) rfl ?_
      refine mm_iincN rfl rfl (mm_inc1 _) (by decide) ?_
      refine mm_goto (tgt := 84) rfl (by decide) ?_
      rw [ed_pl_s]
      exact lT_replace hG hx hx4 hs hs2 hpd hpl hfo k (i + 1) (by omega) (by omega)
set_option maxRecDepth 100000 in
set_option maxHeartbeats 4000000 in
theorem sT_replace {E : mm_E} {G : mm_G} {J : mm_J} (hG : mm_GI G) {x : Nat} (hx : mm_SH x = .inl 2) (hx6 : 6 ≤ x) {n p d s : Nat} (hn : J 2 1 = nI n) (hn2 : n ≤ 100) (hs : J x 1 = nI s) (hs2 : s ≤ 100) (hpd : p + d ≤ n) (hs3 : n - d + s ≤ 100) (hpl : ∀ i, i < 5 → ed_vp (J 4 i)) (hfo : ∀ i, i < 5 → ed_vb (J 5 i)) : mm_Ret E qT_replace [.ref 1, .int (nI p), .int (nI d), .ref x] 86 J G none 86 (ed_rp J x n p d s) G := by
  refine mm_Met.of qT_replace_ok (by decide) (mm_cats rfl) (Nat.le_of_ble_eq_true rfl) ?_
  refine mm_iload_n rfl rfl ?_
  refine mm_iload_n rfl rfl ?_
  refine mm_iaddN rfl ?_
  refine mm_istore rfl (by decide) ?_
  refine mm_aload_n rfl rfl ?_
  refine mm_getI (x := nI s) rfl rfl hx (mm_l1 hx) rfl hs ?_
  refine mm_iload_n rfl rfl ?_
  refine mm_isub rfl ?_
  refine mm_istore rfl (by decide) ?_
  refine mm_aload_n rfl rfl ?_
  refine mm_getR rfl rfl rfl (by decide) rfl (mm_gi hG 1 0 2 (by decide)) ?_
  refine mm_getR rfl rfl rfl (by decide) rfl (mm_gi hG 2 0 3 (by decide)) ?_
  refine mm_iload rfl rfl ?_
  refine mm_aload_n rfl rfl ?_
  refine mm_getR rfl rfl rfl (by decide) rfl (mm_gi hG 1 0 2 (by decide)) ?_
  refine mm_getR rfl rfl rfl (by decide) rfl (mm_gi hG 2 0 3 (by decide)) ?_
  refine mm_iload rfl rfl ?_
  refine mm_iload rfl rfl ?_
  refine mm_iadd rfl ?_
  rw [ed_gr (by omega), show p + d - d + s = p + s by omega]
  refine mm_aload_n rfl rfl ?_
  refine mm_getR rfl rfl rfl (by decide) rfl (mm_gi hG 1 0 2 (by decide)) ?_
  refine mm_getI (x := nI n) rfl rfl rfl (by decide) rfl hn ?_
  refine mm_iload rfl rfl ?_
  refine mm_isubN rfl (by omega) ?_
  refine mm_copy rfl wd_260 wd_255 wd_254 wd_11 rfl rfl (by decide) rfl (by decide) (by decide) (nI_pos (by omega)) (nI_pos (by omega)) (nI_pos (by omega)) (by rw [nI_clamp (by omega), nI_clamp (by omega)]; omega) (by rw [nI_clamp (by omega), nI_clamp (by omega)]; omega) (by decide) (Nat.le_of_ble_eq_true rfl) ?_
  rw [nI_clamp (by omega), nI_clamp (by omega), nI_clamp (by omega)]
  refine mm_aload_n rfl rfl ?_
  refine mm_getR rfl rfl hx (mm_l1 hx) rfl (hG.1 _ hx) ?_
  refine mm_iconst (v := nI 0) rfl (by decide) ?_
  refine mm_aload_n rfl rfl ?_
  refine mm_getR rfl rfl rfl (by decide) rfl (mm_gi hG 1 0 2 (by decide)) ?_
  refine mm_getR rfl rfl rfl (by decide) rfl (mm_gi hG 2 0 3 (by decide)) ?_
  refine mm_iload_n rfl rfl ?_
  refine mm_aload_n rfl rfl ?_
  refine mm_getI (x := nI s) rfl rfl hx (mm_l1 hx) rfl (by simp [mm_set, mm_cp, hs, show ¬ x = 2 by omega, show ¬ x = 3 by omega, show ¬ x = 4 by omega]) ?_
  refine mm_copy rfl wd_260 wd_255 wd_254 wd_11 (mm_l2 hx) rfl (by decide) rfl (mm_l3 hx) (by decide) (nI_pos (by omega)) (nI_pos (by omega)) (nI_pos (by omega)) (by rw [nI_clamp (by omega), nI_clamp (by omega)]; omega) (by rw [nI_clamp (by omega), nI_clamp (by omega)]; omega) (by decide) (Nat.le_of_ble_eq_true rfl) ?_
  rw [nI_clamp (by omega), nI_clamp (by omega), nI_clamp (by omega)]
  refine mm_aload_n rfl rfl ?_
  refine mm_getR rfl rfl rfl (by decide) rfl (mm_gi hG 1 0 2 (by decide)) ?_
  refine mm_dup rfl rfl ?_
  refine mm_getI (x := nI n) rfl rfl rfl (by decide) rfl (by simp [mm_set, mm_cp, hn]) ?_
  refine mm_iload rfl rfl ?_
  refine mm_iadd rfl ?_
  rw [ed_gr (by omega)]
  refine mm_putI rfl rfl rfl (by decide) rfl (Or.inl rfl) rfl rfl ?_
  refine mm_iconst (v := nI 0) rfl (by decide) ?_
  refine mm_istore rfl (by decide) ?_
  refine mm_J_eq (ed_pl_0 _ p d s).symm ?_
  exact lT_replace (p := p) (d := d) (s := s) (J := mm_set (mm_cp (mm_cp J 3 3 (p + d) (p + s) (n - (p + d))) (x + 1) 3 0 p s) 2 1 (nI (n - d + s))) hG hx (by omega) (by simp [mm_set, mm_cp, hs, show ¬ x = 2 by omega, show ¬ x = 3 by omega, show ¬ x = 4 by omega]) hs2 (by omega) (fun i hi => hpl i hi) (fun i hi => hfo i hi) 5 0 rfl (by omega)
