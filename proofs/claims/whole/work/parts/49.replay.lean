/-- one event on either side -/
def ed_evX (E : mm_E) (k : Bool) (c : Int32) (X : mm_J) (G : mm_G) (r : Int32) (X' : mm_J) (G' : mm_G) : Prop :=
  (k = true ∧ mm_Ret E qE_insert [.ref 0, .int c] 86 X G (some (.int r)) 86 X' G') ∨
  (k = false ∧ ∃ cal X1, mm_Ret E qY_stroke [.ref 60, .int c] 86 X G (some (.int cal)) 86 X1 G ∧ mm_Ret E qE_perform [.ref 0, .int cal] 86 X1 G (some (.int r)) 86 X' G')
def ed_evM (E : mm_E) (k : Bool) (c : Int32) (M : mm_J) (G : mm_G) (r : Int32) (M' : mm_J) : Prop :=
  (k = true ∧ ed_ch c ∧ mm_Ret E qR_insert [.ref 69, .int c] 86 M G (some (.int r)) 86 M' G) ∨
  (k = false ∧ ∃ j cal M1, j ≤ 15 ∧ c = nI j ∧ mm_Ret E qR_resolve [.ref 69, .int c] 86 M G (some (.int cal)) 86 M1 G ∧
    ((cal = nI 21 ∧ r = -2 ∧ M' = M1) ∨ (∃ k2, k2 < 21 ∧ cal = nI k2 ∧ mm_Ret E qR_perform [.ref 69, .int cal] 86 M1 G (some (.int r)) 86 M' G) ∨ ((cal < 0 ∨ nI 21 < cal) ∧ r = cal ∧ M' = M1)))
theorem pp_event {E : mm_E} {v : ed_V} {X : mm_J} {G : mm_G} {M : mm_J} (hX : ed_CX v X G) (hM : ed_CM v M) (hI : ed_I v) (hm : v_m v < 2 ^ 29) {i : Nat} (hi : i < v_z v) : ∃ (r : Int32) (v' : ed_V), (∃ X' G', ed_CF v' X' G' X ∧ ed_evX E (v_ek v i) (v_ec v i) X G r X' G') ∧ (∃ M', ed_CM v' M' ∧ ∀ K GM, mm_GI GM → ed_evM E (v_ek v i) (v_ec v i) (mm_mx K M) GM r (mm_mx K M')) ∧ ed_I v' ∧ v_m v' ≤ v_m v + 1 ∧ v_E v' = v_E v ∧ (r < 0 → v_t v' = v_t v) := by
  have hG := hX.1
  have hE : xE (v_E v) X := hX.2.2.2.2.2.2.1
  have hEm : mE (v_E v) M := hM.2.2.2.2.2.1
  have iE1 : iE (v_E v) := hI.1.2.2.2.2.2.1
  obtain ⟨e1, e2, e3⟩ := id hE
  obtain ⟨m1, m2, m3⟩ := id hEm
  obtain ⟨y1, y2, y3⟩ := id iE1
  replace e1 : X 63 2 = nI (v_z v) := e1
  replace e2 : X 63 3 = nI (v_rc v) := e2
  replace m1 : M 69 31 = nI (v_z v) := m1
  replace m2 : M 69 32 = nI (v_rc v) := m2
  replace y1 : v_z v ≤ 12 := y1
  replace y2 : v_rc v < 2 := y2
  have y4 := y3 i hi
  replace y4 : (v_ek v i = true → ed_ch (v_ec v i)) ∧ (v_ek v i = false → ∃ k, k ≤ 15 ∧ v_ec v i = nI k) := y4
  cases hk : v_ek v i with
  | true =>
    have hc := y4.1 hk
    obtain ⟨r, v1, ⟨X1, G1, a1, a2⟩, ⟨M1, b1, b2⟩, i1, m1, m2, m3⟩ := pp_insert (E := E) hX hM hI hm hc
    exact ⟨r, v1, ⟨X1, G1, a2, Or.inl ⟨rfl, a1⟩⟩, ⟨M1, b1, fun K GM hGM => Or.inl ⟨rfl, hc, b2 K GM hGM⟩⟩, i1, m1, m2, fun q => by rw [m3 q]⟩
  | false =>
    obtain ⟨key, hkey, hc⟩ := y4.2 hk
    rw [hc]
    obtain ⟨cal, y, hcal, ⟨X0, s1, s2⟩, ⟨M0, t1, t2⟩, hI0⟩ := pp_key (E := E) hX hM hI hkey
    by_cases h21 : cal = nI 21
    · subst h21
      exact ⟨-2, _, ⟨X0, G, s2, Or.inr ⟨rfl, nI 21, X0, s1, sE_perform0 (Nat.le_refl _) sE_co21 (by decide)⟩⟩, ⟨M0, t1, fun K GM hGM => Or.inr ⟨rfl, key, nI 21, mm_mx K M0, hkey, rfl, t2 K GM hGM, Or.inl ⟨rfl, rfl, rfl⟩⟩⟩, hI0, Nat.le_succ _, rfl, fun _ => rfl⟩
    · by_cases hx : cal < 0 ∨ nI 21 < cal
      · exact ⟨cal, _, ⟨X0, G, s2, Or.inr ⟨rfl, cal, X0, s1, sE_performX hx⟩⟩, ⟨M0, t1, fun K GM hGM => Or.inr ⟨rfl, key, cal, mm_mx K M0, hkey, rfl, t2 K GM hGM, Or.inr (Or.inr ⟨hx, rfl, rfl⟩)⟩⟩, hI0, Nat.le_succ _, rfl, fun _ => rfl⟩
      · have hk2 : ∃ k, k < 21 ∧ cal = nI k := by
          rcases hcal with q | q | ⟨k, q1, q2⟩
          · exact absurd (Or.inl (by rw [q]; decide)) hx
          · exact absurd (Or.inr (by rw [q]; decide)) hx
          · rcases Nat.lt_or_ge k 21 with z | z
            · exact ⟨k, z, q2⟩
            · exact absurd (by rw [q2, show k = 21 by omega]) h21
        obtain ⟨k, hk1, hck⟩ := hk2
        obtain ⟨r, v1, ⟨X1, G1, a1, a2⟩, ⟨M1, b1, b2⟩, i1, m1, m2, m3⟩ := pp_perform (E := E) s2.1 t1 hI0 hm hk1
        rw [← hck] at a1
        rw [← hck] at b2
        exact ⟨r, v1, ⟨X1, G1, ⟨a2.1, fun a ha => (a2.2 a ha).trans (s2.2 a ha)⟩, Or.inr ⟨rfl, cal, X0, s1, a1⟩⟩, ⟨M1, b1, fun K GM hGM => Or.inr ⟨rfl, key, cal, mm_mx K M0, hkey, rfl, t2 K GM hGM, Or.inr (Or.inl ⟨k, hk1, hck, b2 K GM hGM⟩)⟩⟩, i1, m1, m2, fun q => by rw [m3 q]⟩
set_option maxRecDepth 100000 in
set_option maxHeartbeats 400000 in
theorem lE_rpX {E : mm_E} {G : mm_G} {J : mm_J} {R rd dn : Nat} {a0 : Int32} {z5 z6 : Option Value} (hdn : dn ≤ 1000) : mm_Go E qE_replay 136 [some (.ref 0), some (.int (nI R)), some (.int (nI dn)), some (.int a0), some (.int (nI rd)), z5, z6] [] 86 J G 0 0 (mm_Fm E qE_replay (mm_is (some (.int (nI dn))) 86 (if dn = 0 then mm_set (mm_set J 0 8 (nI 21)) 0 7 (nI 1) else J) G)) := by
  refine mm_iload_n rfl rfl ?_
  refine mm_if_neN (tgt := 146) rfl (by decide) (by omega) (fun h137 => ?_) (fun h137 => ?_)
  · refine mm_iload_n rfl rfl ?_
    refine mm_ireturn rfl rfl rfl (by decide) (by decide) ?_
    exact ⟨rfl, rfl, by rw [if_neg h137], rfl⟩
  · refine mm_aload_n rfl rfl ?_
    refine mm_bipush (v := nI 21) rfl (by decide) ?_
    refine mm_isV1 (M2 := qE_finish) wd_264 qE_finish_k (by decide) sE_finish rfl (by decide) (Nat.le_of_ble_eq_true rfl) (by decide) (by decide) rfl (by decide) ?_
    refine mm_iload_n rfl rfl ?_
    refine mm_ireturn rfl rfl rfl (by decide) (by decide) ?_
    exact ⟨rfl, rfl, by rw [if_pos h137], rfl⟩
set_option maxRecDepth 100000 in
set_option maxHeartbeats 400000 in
theorem lE_rpE {E : mm_E} {G : mm_G} {J : mm_J} (hG : mm_GI G) {z R rd i dn : Nat} {a0 : Int32} {z6 : Option Value} (hR : R ≤ 9) (hz : J 63 2 = nI z) (hz2 : z ≤ 12) (hrd : rd < R) (hdn : dn ≤ 1000) (hi9 : i ≤ 13) (ha : a0 < 0) : mm_Go E qE_replay 53 [some (.ref 0), some (.int (nI R)), some (.int (nI dn)), some (.int a0), some (.int (nI rd)), some (.int (nI i)), z6] [] 86 J G 0 0 (mm_Fm E qE_replay (mm_is (some (.int (nI dn))) 86 (if dn = 0 then mm_set (mm_set J 0 8 (nI 21)) 0 7 (nI 1) else J) G)) := by
  refine mm_iload rfl rfl ?_
  refine mm_aload_n rfl rfl ?_
  refine mm_getR rfl rfl rfl (by decide) rfl (mm_gi hG 0 4 63 (by decide)) ?_
  refine mm_getI (x := nI z) rfl rfl rfl (by decide) rfl hz ?_
  refine mm_icmp_geN (tgt := 130) rfl (by decide) (by omega) (by omega) (fun h62 => ?_) (fun h62 => ?_)
  · refine mm_iincN rfl rfl (mm_inc1 _) (by decide) ?_
    refine mm_goto (tgt := 40) rfl (by decide) ?_
    refine mm_iload rfl rfl ?_
    refine mm_iload_n rfl rfl ?_
    refine mm_icmp_geN (tgt := 136) rfl (by decide) (by omega) (by omega) (fun h43 => ?_) (fun h43 => ?_)
    · exact lE_rpX hdn
    · refine mm_iload_n rfl rfl ?_
      refine mm_if_lt (tgt := 136) rfl (by decide) (fun h47 => ?_) (fun h47 => ?_)
      · exact lE_rpX hdn
      · exact absurd ha h47
  · refine mm_iload_n rfl rfl ?_
    refine mm_if_lt (tgt := 130) rfl (by decide) (fun h66 => ?_) (fun h66 => ?_)
    · refine mm_iincN rfl rfl (mm_inc1 _) (by decide) ?_
      refine mm_goto (tgt := 40) rfl (by decide) ?_
      refine mm_iload rfl rfl ?_
      refine mm_iload_n rfl rfl ?_
      refine mm_icmp_geN (tgt := 136) rfl (by decide) (by omega) (by omega) (fun h43 => ?_) (fun h43 => ?_)
      · exact lE_rpX hdn
      · refine mm_iload_n rfl rfl ?_
        refine mm_if_lt (tgt := 136) rfl (by decide) (fun h47 => ?_) (fun h47 => ?_)
        · exact lE_rpX hdn
        · exact absurd ha h47
    · exact absurd ha h66
set_option maxRecDepth 100000 in
set_option maxHeartbeats 400000 in
theorem lE_rpF {E : mm_E} {G : mm_G} {J : mm_J} (hG : mm_GI G) {z R rd i dn : Nat} {a0 : Int32} {z6 : Option Value} (hR : R ≤ 9) (hz : J 63 2 = nI z) (hz2 : z ≤ 12) (hrd : rd < R) (hdn : dn ≤ 1000) (hi : i = z) (hl : rd + 1 = R) : mm_Go E qE_replay 53 [some (.ref 0), some (.int (nI R)), some (.int (nI dn)), some (.int a0), some (.int (nI rd)), some (.int (nI i)), z6] [] 86 J G 0 0 (mm_Fm E qE_replay (mm_is (some (.int (nI dn))) 86 (if dn = 0 then mm_set (mm_set J 0 8 (nI 21)) 0 7 (nI 1) else J) G)) := by
  refine mm_iload rfl rfl ?_
  refine mm_aload_n rfl rfl ?_
  refine mm_getR rfl rfl rfl (by decide) rfl (mm_gi hG 0 4 63 (by decide)) ?_
  refine mm_getI (x := nI z) rfl rfl rfl (by decide) rfl hz ?_
  refine mm_icmp_geN (tgt := 130) rfl (by decide) (by omega) (by omega) (fun h62 => ?_) (fun h62 => ?_)
  · refine mm_iincN rfl rfl (mm_inc1 _) (by decide) ?_
    refine mm_goto (tgt := 40) rfl (by decide) ?_
    refine mm_iload rfl rfl ?_
    refine mm_iload_n rfl rfl ?_
    refine mm_icmp_geN (tgt := 136) rfl (by decide) (by omega) (by omega) (fun h43 => ?_) (fun h43 => ?_)
    · exact lE_rpX hdn
    · exact absurd h43 (by omega)
  · exact absurd h62 (by omega)
set_option maxRecDepth 100000 in
set_option maxHeartbeats 400000 in
theorem lE_rpN {E : mm_E} {G : mm_G} {J : mm_J} (hG : mm_GI G) {z R rd i dn : Nat} {a0 : Int32} {z6 : Option Value} (hR : R ≤ 9) (hz : J 63 2 = nI z) (hz2 : z ≤ 12) (hrd : rd < R) (hdn : dn ≤ 1000) {F : mm_F} (ha : ¬ a0 < 0) (hi : i = z) (hl : rd + 1 < R) (kk : mm_Go E qE_replay 53 [some (.ref 0), some (.int (nI R)), some (.int (nI dn)), some (.int a0), some (.int (nI (rd + 1))), some (.int (nI 0)), z6] [] 86 J G 0 0 F) : mm_Go E qE_replay 53 [some (.ref 0), some (.int (nI R)), some (.int (nI dn)), some (.int a0), some (.int (nI rd)), some (.int (nI i)), z6] [] 86 J G 0 0 F := by
  refine mm_iload rfl rfl ?_
  refine mm_aload_n rfl rfl ?_
  refine mm_getR rfl rfl rfl (by decide) rfl (mm_gi hG 0 4 63 (by decide)) ?_
  refine mm_getI (x := nI z) rfl rfl rfl (by decide) rfl hz ?_
  refine mm_icmp_geN (tgt := 130) rfl (by decide) (by omega) (by omega) (fun h62 => ?_) (fun h62 => ?_)
  · refine mm_iincN rfl rfl (mm_inc1 _) (by decide) ?_
    refine mm_goto (tgt := 40) rfl (by decide) ?_
    refine mm_iload rfl rfl ?_
    refine mm_iload_n rfl rfl ?_
    refine mm_icmp_geN (tgt := 136) rfl (by decide) (by omega) (by omega) (fun h43 => ?_) (fun h43 => ?_)
    · exact absurd h43 (by omega)
    · refine mm_iload_n rfl rfl ?_
      refine mm_if_lt (tgt := 136) rfl (by decide) (fun h47 => ?_) (fun h47 => ?_)
      · exact absurd h47 ha
      · refine mm_iconst (v := nI 0) rfl (by decide) ?_
        refine mm_istore rfl (by decide) ?_
        exact kk
  · exact absurd h62 (by omega)
set_option maxRecDepth 100000 in
set_option maxHeartbeats 400000 in
theorem lE_rpY {E : mm_E} {G : mm_G} {J : mm_J} (hG : mm_GI G) {z R rd i dn : Nat} {a0 : Int32} {z6 : Option Value} (hR : R ≤ 9) (hz : J 63 2 = nI z) (hz2 : z ≤ 12) (hrd : rd < R) (hdn : dn ≤ 1000) (hi : i < z) {k : Bool} {c r : Int32} {J2 : mm_J} {G2 : mm_G} (hcd : J 64 i = c) (hty : J 65 i = nI (ed_b k)) (ha : ¬ a0 < 0) (hev : ed_evX E k c J G r J2 G2) {F : mm_F} (hr : ¬ r < 0) (kk : ∀ z6, mm_Go E qE_replay 53 [some (.ref 0), some (.int (nI R)), some (.int (nI (dn + 1))), some (.int r), some (.int (nI rd)), some (.int (nI (i + 1))), z6] [] 86 J2 G2 0 0 F) : mm_Go E qE_replay 53 [some (.ref 0), some (.int (nI R)), some (.int (nI dn)), some (.int a0), some (.int (nI rd)), some (.int (nI i)), z6] [] 86 J G 0 0 F := by
  rcases hev with ⟨rfl, h⟩ | ⟨rfl, cal, X1, h1, h2⟩
  · refine mm_iload rfl rfl ?_
    refine mm_aload_n rfl rfl ?_
    refine mm_getR rfl rfl rfl (by decide) rfl (mm_gi hG 0 4 63 (by decide)) ?_
    refine mm_getI (x := nI z) rfl rfl rfl (by decide) rfl hz ?_
    refine mm_icmp_geN (tgt := 130) rfl (by decide) (by omega) (by omega) (fun h62 => ?_) (fun h62 => ?_)
    · exact absurd h62 (by omega)
    · refine mm_iload_n rfl rfl ?_
      refine mm_if_lt (tgt := 130) rfl (by decide) (fun h66 => ?_) (fun h66 => ?_)
      · exact absurd h66 ha
      · refine mm_aload_n rfl rfl ?_
        refine mm_getR rfl rfl rfl (by decide) rfl (mm_gi hG 0 4 63 (by decide)) ?_
        refine mm_getR rfl rfl rfl (by decide) rfl (mm_gi hG 63 0 64 (by decide)) ?_
        refine mm_iload rfl rfl ?_
        refine mm_rdN (x := c) rfl (by decide) rfl (by decide) (by omega) (by decide) rfl hcd ?_
        refine mm_istore rfl (by decide) ?_
        refine mm_aload_n rfl rfl ?_
        refine mm_getR rfl rfl rfl (by decide) rfl (mm_gi hG 0 4 63 (by decide)) ?_
        refine mm_getR rfl rfl rfl (by decide) rfl (mm_gi hG 63 1 65 (by decide)) ?_
        refine mm_iload rfl rfl ?_
        refine mm_rzN (x := nI (ed_b true)) rfl (by decide) rfl (by decide) (by omega) (by decide) rfl hty ?_
        refine mm_if_eqN (tgt := 103) rfl (by decide) (ed_b31 _) (fun h91 => ?_) (fun h91 => ?_)
        · exact absurd h91 (by decide)
        · refine mm_aload_n rfl rfl ?_
          refine mm_iload rfl rfl ?_
          refine mm_isV1 (M2 := qE_insert) wd_218 qE_insert_k (by decide) h rfl (by decide) (Nat.le_of_ble_eq_true rfl) (by decide) (by decide) rfl (by decide) ?_
          refine mm_goto (tgt := 116) rfl (by decide) ?_
          refine mm_istore_n rfl (by decide) ?_
          refine mm_iload_n rfl rfl ?_
          refine mm_if_lt (tgt := 124) rfl (by decide) (fun h118 => ?_) (fun h118 => ?_)
          · exact absurd h118 hr
          · refine mm_iincN rfl rfl (mm_inc1 _) (by decide) ?_
            refine mm_iincN rfl rfl (mm_inc1 _) (by decide) ?_
            refine mm_goto (tgt := 53) rfl (by decide) ?_
            exact kk _
  · refine mm_iload rfl rfl ?_
    refine mm_aload_n rfl rfl ?_
    refine mm_getR rfl rfl rfl (by decide) rfl (mm_gi hG 0 4 63 (by decide)) ?_
    refine mm_getI (x := nI z) rfl rfl rfl (by decide) rfl hz ?_
    refine mm_icmp_geN (tgt := 130) rfl (by decide) (by omega) (by omega) (fun h62 => ?_) (fun h62 => ?_)
    · exact absurd h62 (by omega)
    · refine mm_iload_n rfl rfl ?_
      refine mm_if_lt (tgt := 130) rfl (by decide) (fun h66 => ?_) (fun h66 => ?_)
      · exact absurd h66 ha
      · refine mm_aload_n rfl rfl ?_
        refine mm_getR rfl rfl rfl (by decide) rfl (mm_gi hG 0 4 63 (by decide)) ?_
        refine mm_getR rfl rfl rfl (by decide) rfl (mm_gi hG 63 0 64 (by decide)) ?_
        refine mm_iload rfl rfl ?_
        refine mm_rdN (x := c) rfl (by decide) rfl (by decide) (by omega) (by decide) rfl hcd ?_
        refine mm_istore rfl (by decide) ?_
        refine mm_aload_n rfl rfl ?_
        refine mm_getR rfl rfl rfl (by decide) rfl (mm_gi hG 0 4 63 (by decide)) ?_
        refine mm_getR rfl rfl rfl (by decide) rfl (mm_gi hG 63 1 65 (by decide)) ?_
        refine mm_iload rfl rfl ?_
        refine mm_rzN (x := nI (ed_b false)) rfl (by decide) rfl (by decide) (by omega) (by decide) rfl hty ?_
        refine mm_if_eqN (tgt := 103) rfl (by decide) (ed_b31 _) (fun h91 => ?_) (fun h91 => ?_)
        · refine mm_aload_n rfl rfl ?_
          refine mm_aload_n rfl rfl ?_
          refine mm_getR rfl rfl rfl (by decide) rfl (mm_gi hG 0 3 60 (by decide)) ?_
          refine mm_iload rfl rfl ?_
          refine mm_isV1 (M2 := qY_stroke) wd_280 qY_stroke_k (by decide) h1 rfl (by decide) (Nat.le_of_ble_eq_true rfl) (by decide) (by decide) rfl (by decide) ?_
          refine mm_isV1 (M2 := qE_perform) wd_290 qE_perform_k (by decide) h2 rfl (by decide) (Nat.le_of_ble_eq_true rfl) (by decide) (by decide) rfl (by decide) ?_
          refine mm_istore_n rfl (by decide) ?_
          refine mm_iload_n rfl rfl ?_
          refine mm_if_lt (tgt := 124) rfl (by decide) (fun h118 => ?_) (fun h118 => ?_)
          · exact absurd h118 hr
          · refine mm_iincN rfl rfl (mm_inc1 _) (by decide) ?_
            refine mm_iincN rfl rfl (mm_inc1 _) (by decide) ?_
            refine mm_goto (tgt := 53) rfl (by decide) ?_
            exact kk _
        · exact absurd rfl h91
set_option maxRecDepth 100000 in
set_option maxHeartbeats 400000 in
theorem lE_rpS {E : mm_E} {G : mm_G} {J : mm_J} (hG : mm_GI G) {z R rd i dn : Nat} {a0 : Int32} {z6 : Option Value} (hR : R ≤ 9) (hz : J 63 2 = nI z) (hz2 : z ≤ 12) (hrd : rd < R) (hdn : dn ≤ 1000) (hi : i < z) {k : Bool} {c r : Int32} {J2 : mm_J} {G2 : mm_G} (hcd : J 64 i = c) (hty : J 65 i = nI (ed_b k)) (ha : ¬ a0 < 0) (hev : ed_evX E k c J G r J2 G2) (hr : r < 0) (hG2 : mm_GI G2) (hz9 : J2 63 2 = nI z) : mm_Go E qE_replay 53 [some (.ref 0), some (.int (nI R)), some (.int (nI dn)), some (.int a0), some (.int (nI rd)), some (.int (nI i)), z6] [] 86 J G 0 0 (mm_Fm E qE_replay (mm_is (some (.int (nI dn))) 86 (if dn = 0 then mm_set (mm_set J2 0 8 (nI 21)) 0 7 (nI 1) else J2) G2)) := by
  rcases hev with ⟨rfl, h⟩ | ⟨rfl, cal, X1, h1, h2⟩
  · refine mm_iload rfl rfl ?_
    refine mm_aload_n rfl rfl ?_
    refine mm_getR rfl rfl rfl (by decide) rfl (mm_gi hG 0 4 63 (by decide)) ?_
    refine mm_getI (x := nI z) rfl rfl rfl (by decide) rfl hz ?_
    refine mm_icmp_geN (tgt := 130) rfl (by decide) (by omega) (by omega) (fun h62 => ?_) (fun h62 => ?_)
    · exact absurd h62 (by omega)
    · refine mm_iload_n rfl rfl ?_
      refine mm_if_lt (tgt := 130) rfl (by decide) (fun h66 => ?_) (fun h66 => ?_)
      · exact absurd h66 ha
      · refine mm_aload_n rfl rfl ?_
        refine mm_getR rfl rfl rfl (by decide) rfl (mm_gi hG 0 4 63 (by decide)) ?_
        refine mm_getR rfl rfl rfl (by decide) rfl (mm_gi hG 63 0 64 (by decide)) ?_
        refine mm_iload rfl rfl ?_
        refine mm_rdN (x := c) rfl (by decide) rfl (by decide) (by omega) (by decide) rfl hcd ?_
        refine mm_istore rfl (by decide) ?_
        refine mm_aload_n rfl rfl ?_
        refine mm_getR rfl rfl rfl (by decide) rfl (mm_gi hG 0 4 63 (by decide)) ?_
        refine mm_getR rfl rfl rfl (by decide) rfl (mm_gi hG 63 1 65 (by decide)) ?_
        refine mm_iload rfl rfl ?_
        refine mm_rzN (x := nI (ed_b true)) rfl (by decide) rfl (by decide) (by omega) (by decide) rfl hty ?_
        refine mm_if_eqN (tgt := 103) rfl (by decide) (ed_b31 _) (fun h91 => ?_) (fun h91 => ?_)
        · exact absurd h91 (by decide)
        · refine mm_aload_n rfl rfl ?_
          refine mm_iload rfl rfl ?_
          refine mm_isV1 (M2 := qE_insert) wd_218 qE_insert_k (by decide) h rfl (by decide) (Nat.le_of_ble_eq_true rfl) (by decide) (by decide) rfl (by decide) ?_
          refine mm_goto (tgt := 116) rfl (by decide) ?_
          refine mm_istore_n rfl (by decide) ?_
          refine mm_iload_n rfl rfl ?_
          refine mm_if_lt (tgt := 124) rfl (by decide) (fun h118 => ?_) (fun h118 => ?_)
          · refine mm_iincN rfl rfl (mm_inc1 _) (by decide) ?_
            refine mm_goto (tgt := 53) rfl (by decide) ?_
            exact lE_rpE hG2 hR hz9 hz2 hrd hdn (by omega) hr
          · exact absurd hr h118
  · refine mm_iload rfl rfl ?_
    refine mm_aload_n rfl rfl ?_
    refine mm_getR rfl rfl rfl (by decide) rfl (mm_gi hG 0 4 63 (by decide)) ?_
    refine mm_getI (x := nI z) rfl rfl rfl (by decide) rfl hz ?_
    refine mm_icmp_geN (tgt := 130) rfl (by decide) (by omega) (by omega) (fun h62 => ?_) (fun h62 => ?_)
    · exact absurd h62 (by omega)
    · refine mm_iload_n rfl rfl ?_
      refine mm_if_lt (tgt := 130) rfl (by decide) (fun h66 => ?_) (fun h66 => ?_)
      · exact absurd h66 ha
      · refine mm_aload_n rfl rfl ?_
        refine mm_getR rfl rfl rfl (by decide) rfl (mm_gi hG 0 4 63 (by decide)) ?_
        refine mm_getR rfl rfl rfl (by decide) rfl (mm_gi hG 63 0 64 (by decide)) ?_
        refine mm_iload rfl rfl ?_
        refine mm_rdN (x := c) rfl (by decide) rfl (by decide) (by omega) (by decide) rfl hcd ?_
        refine mm_istore rfl (by decide) ?_
        refine mm_aload_n rfl rfl ?_
        refine mm_getR rfl rfl rfl (by decide) rfl (mm_gi hG 0 4 63 (by decide)) ?_
        refine mm_getR rfl rfl rfl (by decide) rfl (mm_gi hG 63 1 65 (by decide)) ?_
        refine mm_iload rfl rfl ?_
        refine mm_rzN (x := nI (ed_b false)) rfl (by decide) rfl (by decide) (by omega) (by decide) rfl hty ?_
        refine mm_if_eqN (tgt := 103) rfl (by decide) (ed_b31 _) (fun h91 => ?_) (fun h91 => ?_)
        · refine mm_aload_n rfl rfl ?_
          refine mm_aload_n rfl rfl ?_
          refine mm_getR rfl rfl rfl (by decide) rfl (mm_gi hG 0 3 60 (by decide)) ?_
          refine mm_iload rfl rfl ?_
          refine mm_isV1 (M2 := qY_stroke) wd_280 qY_stroke_k (by decide) h1 rfl (by decide) (Nat.le_of_ble_eq_true rfl) (by decide) (by decide) rfl (by decide) ?_
          refine mm_isV1 (M2 := qE_perform) wd_290 qE_perform_k (by decide) h2 rfl (by decide) (Nat.le_of_ble_eq_true rfl) (by decide) (by decide) rfl (by decide) ?_
          refine mm_istore_n rfl (by decide) ?_
          refine mm_iload_n rfl rfl ?_
          refine mm_if_lt (tgt := 124) rfl (by decide) (fun h118 => ?_) (fun h118 => ?_)
          · refine mm_iincN rfl rfl (mm_inc1 _) (by decide) ?_
            refine mm_goto (tgt := 53) rfl (by decide) ?_
            exact lE_rpE hG2 hR hz9 hz2 hrd hdn (by omega) hr
          · exact absurd hr h118
        · exact absurd rfl h91
set_option maxRecDepth 100000 in
set_option maxHeartbeats 400000 in
theorem lR_plF {E : mm_E} {G : mm_G} {J : mm_J} (hG : mm_GI G) {z R rd i dn : Nat} {z5 : Option Value} (hR : R ≤ 9) (hz : J 69 31 = nI z) (hz2 : z ≤ 12) (hrd : rd < R) (hdn : dn ≤ 1000) (hi : i = z) (hl : rd + 1 = R) : mm_Go E qR_play 39 [some (.ref 69), some (.int (nI R)), some (.int (nI dn)), some (.int (nI rd)), some (.int (nI i)), z5] [] 86 J G 0 0 (mm_Fm E qR_play (mm_is (some (.int (nI dn))) 86 J G)) := by
  refine mm_iload rfl rfl ?_
  refine mm_aload_n rfl rfl ?_
  refine mm_getI (x := nI z) rfl rfl rfl (by decide) rfl hz ?_
  refine mm_icmp_geN (tgt := 154) rfl (by decide) (by omega) (by omega) (fun h45 => ?_) (fun h45 => ?_)
  · refine mm_iincN rfl rfl (mm_inc1 _) (by decide) ?_
    refine mm_goto (tgt := 31) rfl (by decide) ?_
    refine mm_iload_n rfl rfl ?_
    refine mm_iload_n rfl rfl ?_
    refine mm_icmp_geN (tgt := 160) rfl (by decide) (by omega) (by omega) (fun h33 => ?_) (fun h33 => ?_)
    · refine mm_iload_n rfl rfl ?_
      refine mm_ireturn rfl rfl rfl (by decide) (by decide) ?_
      exact ⟨rfl, rfl, rfl, rfl⟩
    · exact absurd h33 (by omega)
  · exact absurd h45 (by omega)
set_option maxRecDepth 100000 in
set_option maxHeartbeats 400000 in
theorem lR_plN {E : mm_E} {G : mm_G} {J : mm_J} (hG : mm_GI G) {z R rd i dn : Nat} {z5 : Option Value} (hR : R ≤ 9) (hz : J 69 31 = nI z) (hz2 : z ≤ 12) (hrd : rd < R) (hdn : dn ≤ 1000) {F : mm_F} (hi : i = z) (hl : rd + 1 < R) (kk : mm_Go E qR_play 39 [some (.ref 69), some (.int (nI R)), some (.int (nI dn)), some (.int (nI (rd + 1))), some (.int (nI 0)), z5] [] 86 J G 0 0 F) : mm_Go E qR_play 39 [some (.ref 69), some (.int (nI R)), some (.int (nI dn)), some (.int (nI rd)), some (.int (nI i)), z5] [] 86 J G 0 0 F := by
  refine mm_iload rfl rfl ?_
  refine mm_aload_n rfl rfl ?_
  refine mm_getI (x := nI z) rfl rfl rfl (by decide) rfl hz ?_
  refine mm_icmp_geN (tgt := 154) rfl (by decide) (by omega) (by omega) (fun h45 => ?_) (fun h45 => ?_)
  · refine mm_iincN rfl rfl (mm_inc1 _) (by decide) ?_
    refine mm_goto (tgt := 31) rfl (by decide) ?_
    refine mm_iload_n rfl rfl ?_
    refine mm_iload_n rfl rfl ?_
    refine mm_icmp_geN (tgt := 160) rfl (by decide) (by omega) (by omega) (fun h33 => ?_) (fun h33 => ?_)
    · exact absurd h33 (by omega)
    · refine mm_iconst (v := nI 0) rfl (by decide) ?_
      refine mm_istore rfl (by decide) ?_
      exact kk
  · exact absurd h45 (by omega)
theorem ed_ch_n {c : Int32} (h : ed_ch c) : ∃ k, k ≤ 122 ∧ c = nI k := by
  rcases h with h | h | h
  · have h2 := of_decide_eq_true h
    have e1 : (nI 97).toInt = 97 := by decide
    have e2 : (nI 122).toInt = 122 := by decide
    rw [Int32.le_iff_toInt_le, Int32.le_iff_toInt_le, e1, e2] at h2
    refine ⟨c.toInt.toNat, by omega, ?_⟩
    rw [← Int32.toInt_inj, nI_toInt (by omega)]
    omega
  · exact ⟨32, by decide, h⟩
  · exact ⟨10, by decide, h⟩
set_option maxRecDepth 100000 in
set_option maxHeartbeats 400000 in
theorem lR_plY {E : mm_E} {G : mm_G} {J : mm_J} (hG : mm_GI G) {z R rd i dn : Nat} {z5 : Option Value} (hR : R ≤ 9) (hz : J 69 31 = nI z) (hz2 : z ≤ 12) (hrd : rd < R) (hdn : dn ≤ 1000) (hi : i < z) {k : Bool} {c r : Int32} {J2 : mm_J} (hcd : J 85 i = if k = true then nI 1000 + c else c) (hev : ed_evM E k c J G r J2) {F : mm_F} (hr : ¬ r < 0) (kk : ∀ z5, mm_Go E qR_play 39 [some (.ref 69), some (.int (nI R)), some (.int (nI (dn + 1))), some (.int (nI rd)), some (.int (nI (i + 1))), z5] [] 86 J2 G 0 0 F) : mm_Go E qR_play 39 [some (.ref 69), some (.int (nI R)), some (.int (nI dn)), some (.int (nI rd)), some (.int (nI i)), z5] [] 86 J G 0 0 F := by
  rcases hev with ⟨rfl, hch, h⟩ | ⟨rfl, j, cal, M1, hj, rfl, h1, hcs⟩
  · obtain ⟨cc, hcc, rfl⟩ := ed_ch_n hch
    rw [if_pos rfl, nI_add] at hcd
    refine mm_iload rfl rfl ?_
    refine mm_aload_n rfl rfl ?_
    refine mm_getI (x := nI z) rfl rfl rfl (by decide) rfl hz ?_
    refine mm_icmp_geN (tgt := 154) rfl (by decide) (by omega) (by omega) (fun h45 => ?_) (fun h45 => ?_)
    · exact absurd h45 (by omega)
    · refine mm_aload_n rfl rfl ?_
      refine mm_getR rfl rfl rfl (by decide) rfl (mm_gi hG 69 30 85 (by decide)) ?_
      refine mm_iload rfl rfl ?_
      refine mm_rdN (x := nI (1000 + cc)) rfl (by decide) rfl (by decide) (by omega) (by decide) rfl hcd ?_
      refine mm_sipush (v := nI 1000) rfl (by decide) ?_
      refine mm_icmp_ltN (tgt := 81) rfl (by decide) (by omega) (by omega) (fun h58 => ?_) (fun h58 => ?_)
      · exact absurd h58 (by omega)
      · refine mm_aload_n rfl rfl ?_
        refine mm_aload_n rfl rfl ?_
        refine mm_getR rfl rfl rfl (by decide) rfl (mm_gi hG 69 30 85 (by decide)) ?_
        refine mm_iload rfl rfl ?_
        refine mm_rdN (x := nI (1000 + cc)) rfl (by decide) rfl (by decide) (by omega) (by decide) rfl hcd ?_
        refine mm_sipush (v := nI 1000) rfl (by decide) ?_
        refine mm_isubN rfl (by omega) ?_
        rw [show 1000 + cc - 1000 = cc by omega]
        refine mm_isV1 (M2 := qR_insert) wd_631 qR_insert_k (by decide) h rfl (by decide) (Nat.le_of_ble_eq_true rfl) (by decide) (by decide) rfl (by decide) ?_
        refine mm_istore rfl (by decide) ?_
        refine mm_goto (tgt := 128) rfl (by decide) ?_
        refine mm_iload rfl rfl ?_
        refine mm_if_ge (tgt := 145) rfl (by decide) (fun h130 => ?_) (fun h130 => ?_)
        · refine mm_iincN rfl rfl (mm_inc1 _) (by decide) ?_
          refine mm_iincN rfl rfl (mm_inc1 _) (by decide) ?_
          refine mm_goto (tgt := 39) rfl (by decide) ?_
          exact kk _
        · exact absurd (Int32.not_lt.mp hr) h130
  · rw [if_neg (by decide)] at hcd
    rcases hcs with ⟨rfl, rfl, rfl⟩ | ⟨k2, hk2, hc, h2⟩ | ⟨hc, rfl, rfl⟩
    · exact absurd (show (-2 : Int32) < 0 by decide) hr
    · refine mm_iload rfl rfl ?_
      refine mm_aload_n rfl rfl ?_
      refine mm_getI (x := nI z) rfl rfl rfl (by decide) rfl hz ?_
      refine mm_icmp_geN (tgt := 154) rfl (by decide) (by omega) (by omega) (fun h45 => ?_) (fun h45 => ?_)
      · exact absurd h45 (by omega)
      · refine mm_aload_n rfl rfl ?_
        refine mm_getR rfl rfl rfl (by decide) rfl (mm_gi hG 69 30 85 (by decide)) ?_
        refine mm_iload rfl rfl ?_
        refine mm_rdN (x := nI j) rfl (by decide) rfl (by decide) (by omega) (by decide) rfl hcd ?_
        refine mm_sipush (v := nI 1000) rfl (by decide) ?_
        refine mm_icmp_ltN (tgt := 81) rfl (by decide) (by omega) (by omega) (fun h58 => ?_) (fun h58 => ?_)
        · refine mm_aload_n rfl rfl ?_
          refine mm_aload_n rfl rfl ?_
          refine mm_getR rfl rfl rfl (by decide) rfl (mm_gi hG 69 30 85 (by decide)) ?_
          refine mm_iload rfl rfl ?_
          refine mm_rdN (x := nI j) rfl (by decide) rfl (by decide) (by omega) (by decide) rfl hcd ?_
          refine mm_isV1 (M2 := qR_resolve) wd_665 qR_resolve_k (by decide) h1 rfl (by decide) (Nat.le_of_ble_eq_true rfl) (by decide) (by decide) rfl (by decide) ?_
          refine mm_istore rfl (by decide) ?_
          refine mm_iload rfl rfl ?_
          refine mm_bipush (v := nI 21) rfl (by decide) ?_
          refine mm_icmp_ne (tgt := 108) rfl (by decide) (fun h98 => ?_) (fun h98 => ?_)
          · refine mm_iload rfl rfl ?_
            refine mm_if_lt (tgt := 128) rfl (by decide) (fun h110 => ?_) (fun h110 => ?_)
            · exact absurd h110 (by rw [hc]; exact nI_pos (by omega))
            · refine mm_iload rfl rfl ?_
              refine mm_bipush (v := nI 21) rfl (by decide) ?_
              refine mm_icmp_ge (tgt := 128) rfl (by decide) (fun h117 => ?_) (fun h117 => ?_)
              · exact absurd h117 (by rw [hc]; exact nI_ge hk2 (by decide))
              · refine mm_aload_n rfl rfl ?_
                refine mm_iload rfl rfl ?_
                refine mm_isV1 (M2 := qR_perform) wd_669 qR_perform_k (by decide) h2 rfl (by decide) (Nat.le_of_ble_eq_true rfl) (by decide) (by decide) rfl (by decide) ?_
                refine mm_istore rfl (by decide) ?_
                refine mm_iload rfl rfl ?_
                refine mm_if_ge (tgt := 145) rfl (by decide) (fun h130 => ?_) (fun h130 => ?_)
                · refine mm_iincN rfl rfl (mm_inc1 _) (by decide) ?_
                  refine mm_iincN rfl rfl (mm_inc1 _) (by decide) ?_
                  refine mm_goto (tgt := 39) rfl (by decide) ?_
                  exact kk _
                · exact absurd (Int32.not_lt.mp hr) h130
          · exact absurd ((nI_eq (by omega) (by decide)).mp (hc.symm.trans h98)) (by omega)
        · exact absurd h58 (by omega)
    · refine mm_iload rfl rfl ?_
      refine mm_aload_n rfl rfl ?_
      refine mm_getI (x := nI z) rfl rfl rfl (by decide) rfl hz ?_
      refine mm_icmp_geN (tgt := 154) rfl (by decide) (by omega) (by omega) (fun h45 => ?_) (fun h45 => ?_)
      · exact absurd h45 (by omega)
      · refine mm_aload_n rfl rfl ?_
        refine mm_getR rfl rfl rfl (by decide) rfl (mm_gi hG 69 30 85 (by decide)) ?_
        refine mm_iload rfl rfl ?_
        refine mm_rdN (x := nI j) rfl (by decide) rfl (by decide) (by omega) (by decide) rfl hcd ?_
        refine mm_sipush (v := nI 1000) rfl (by decide) ?_
        refine mm_icmp_ltN (tgt := 81) rfl (by decide) (by omega) (by omega) (fun h58 => ?_) (fun h58 => ?_)
        · refine mm_aload_n rfl rfl ?_
          refine mm_aload_n rfl rfl ?_
          refine mm_getR rfl rfl rfl (by decide) rfl (mm_gi hG 69 30 85 (by decide)) ?_
          refine mm_iload rfl rfl ?_
          refine mm_rdN (x := nI j) rfl (by decide) rfl (by decide) (by omega) (by decide) rfl hcd ?_
          refine mm_isV1 (M2 := qR_resolve) wd_665 qR_resolve_k (by decide) h1 rfl (by decide) (Nat.le_of_ble_eq_true rfl) (by decide) (by decide) rfl (by decide) ?_
          refine mm_istore rfl (by decide) ?_
          refine mm_iload rfl rfl ?_
          refine mm_bipush (v := nI 21) rfl (by decide) ?_
          refine mm_icmp_ne (tgt := 108) rfl (by decide) (fun h98 => ?_) (fun h98 => ?_)
          · refine mm_iload rfl rfl ?_
            refine mm_if_lt (tgt := 128) rfl (by decide) (fun h110 => ?_) (fun h110 => ?_)
            · refine mm_iload rfl rfl ?_
              refine mm_if_ge (tgt := 145) rfl (by decide) (fun h130 => ?_) (fun h130 => ?_)
              · refine mm_iincN rfl rfl (mm_inc1 _) (by decide) ?_
                refine mm_iincN rfl rfl (mm_inc1 _) (by decide) ?_
                refine mm_goto (tgt := 39) rfl (by decide) ?_
                exact kk _
              · exact absurd (Int32.not_lt.mp hr) h130
            · refine mm_iload rfl rfl ?_
              refine mm_bipush (v := nI 21) rfl (by decide) ?_
              refine mm_icmp_ge (tgt := 128) rfl (by decide) (fun h117 => ?_) (fun h117 => ?_)
              · refine mm_iload rfl rfl ?_
                refine mm_if_ge (tgt := 145) rfl (by decide) (fun h130 => ?_) (fun h130 => ?_)
                · refine mm_iincN rfl rfl (mm_inc1 _) (by decide) ?_
                  refine mm_iincN rfl rfl (mm_inc1 _) (by decide) ?_
                  refine mm_goto (tgt := 39) rfl (by decide) ?_
                  exact kk _
                · exact absurd (Int32.not_lt.mp hr) h130
              · exact hc.elim (fun e => absurd e h110) (fun e => absurd (Int32.le_of_lt e) h117)
          · exact hc.elim (fun e => absurd (h98 ▸ e) (by decide)) (fun e => absurd (h98 ▸ e) (by decide))
        · exact absurd h58 (by omega)
set_option maxRecDepth 100000 in
set_option maxHeartbeats 400000 in
theorem lR_plS {E : mm_E} {G : mm_G} {J : mm_J} (hG : mm_GI G) {z R rd i dn : Nat} {z5 : Option Value} (hR : R ≤ 9) (hz : J 69 31 = nI z) (hz2 : z ≤ 12) (hrd : rd < R) (hdn : dn ≤ 1000) (hi : i < z) {k : Bool} {c r : Int32} {J2 : mm_J} (hcd : J 85 i = if k = true then nI 1000 + c else c) (hev : ed_evM E k c J G r J2) (hr : r < 0) : mm_Go E qR_play 39 [some (.ref 69), some (.int (nI R)), some (.int (nI dn)), some (.int (nI rd)), some (.int (nI i)), z5] [] 86 J G 0 0 (mm_Fm E qR_play (mm_is (some (.int (nI dn))) 86 (if dn = 0 then mm_set J2 69 8 (nI 21) else J2) G)) := by
  rcases hev with ⟨rfl, hch, h⟩ | ⟨rfl, j, cal, M1, hj, rfl, h1, hcs⟩
  · obtain ⟨cc, hcc, rfl⟩ := ed_ch_n hch
    rw [if_pos rfl, nI_add] at hcd
    refine mm_iload rfl rfl ?_
    refine mm_aload_n rfl rfl ?_
    refine mm_getI (x := nI z) rfl rfl rfl (by decide) rfl hz ?_
    refine mm_icmp_geN (tgt := 154) rfl (by decide) (by omega) (by omega) (fun h45 => ?_) (fun h45 => ?_)
    · exact absurd h45 (by omega)
    · refine mm_aload_n rfl rfl ?_
      refine mm_getR rfl rfl rfl (by decide) rfl (mm_gi hG 69 30 85 (by decide)) ?_
      refine mm_iload rfl rfl ?_
      refine mm_rdN (x := nI (1000 + cc)) rfl (by decide) rfl (by decide) (by omega) (by decide) rfl hcd ?_
      refine mm_sipush (v := nI 1000) rfl (by decide) ?_
      refine mm_icmp_ltN (tgt := 81) rfl (by decide) (by omega) (by omega) (fun h58 => ?_) (fun h58 => ?_)
      · exact absurd h58 (by omega)
      · refine mm_aload_n rfl rfl ?_
        refine mm_aload_n rfl rfl ?_
        refine mm_getR rfl rfl rfl (by decide) rfl (mm_gi hG 69 30 85 (by decide)) ?_
        refine mm_iload rfl rfl ?_
        refine mm_rdN (x := nI (1000 + cc)) rfl (by decide) rfl (by decide) (by omega) (by decide) rfl hcd ?_
        refine mm_sipush (v := nI 1000) rfl (by decide) ?_
        refine mm_isubN rfl (by omega) ?_
        rw [show 1000 + cc - 1000 = cc by omega]
        refine mm_isV1 (M2 := qR_insert) wd_631 qR_insert_k (by decide) h rfl (by decide) (Nat.le_of_ble_eq_true rfl) (by decide) (by decide) rfl (by decide) ?_
        refine mm_istore rfl (by decide) ?_
        refine mm_goto (tgt := 128) rfl (by decide) ?_
        refine mm_iload rfl rfl ?_
        refine mm_if_ge (tgt := 145) rfl (by decide) (fun h130 => ?_) (fun h130 => ?_)
        · exact absurd hr (Int32.not_lt.mpr h130)
        · refine mm_iload_n rfl rfl ?_
          refine mm_if_neN (tgt := 143) rfl (by decide) (by omega) (fun h134 => ?_) (fun h134 => ?_)
          · refine mm_iload_n rfl rfl ?_
            refine mm_ireturn rfl rfl rfl (by decide) (by decide) ?_
            exact ⟨rfl, rfl, by rw [if_neg h134], rfl⟩
          · refine mm_aload_n rfl rfl ?_
            refine mm_bipush (v := nI 21) rfl (by decide) ?_
            refine mm_putI rfl rfl rfl (by decide) rfl (Or.inl rfl) rfl rfl ?_
            refine mm_iload_n rfl rfl ?_
            refine mm_ireturn rfl rfl rfl (by decide) (by decide) ?_
            exact ⟨rfl, rfl, by rw [if_pos h134], rfl⟩
  · rw [if_neg (by decide)] at hcd
    rcases hcs with ⟨rfl, rfl, rfl⟩ | ⟨k2, hk2, hc, h2⟩ | ⟨hc, rfl, rfl⟩
    · refine mm_iload rfl rfl ?_
      refine mm_aload_n rfl rfl ?_
      refine mm_getI (x := nI z) rfl rfl rfl (by decide) rfl hz ?_
      refine mm_icmp_geN (tgt := 154) rfl (by decide) (by omega) (by omega) (fun h45 => ?_) (fun h45 => ?_)
      · exact absurd h45 (by omega)
      · refine mm_aload_n rfl rfl ?_
        refine mm_getR rfl rfl rfl (by decide) rfl (mm_gi hG 69 30 85 (by decide)) ?_
        refine mm_iload rfl rfl ?_
        refine mm_rdN (x := nI j) rfl (by decide) rfl (by decide) (by omega) (by decide) rfl hcd ?_
        refine mm_sipush (v := nI 1000) rfl (by decide) ?_
        refine mm_icmp_ltN (tgt := 81) rfl (by decide) (by omega) (by omega) (fun h58 => ?_) (fun h58 => ?_)
        · refine mm_aload_n rfl rfl ?_
          refine mm_aload_n rfl rfl ?_
          refine mm_getR rfl rfl rfl (by decide) rfl (mm_gi hG 69 30 85 (by decide)) ?_
          refine mm_iload rfl rfl ?_
          refine mm_rdN (x := nI j) rfl (by decide) rfl (by decide) (by omega) (by decide) rfl hcd ?_
          refine mm_isV1 (M2 := qR_resolve) wd_665 qR_resolve_k (by decide) h1 rfl (by decide) (Nat.le_of_ble_eq_true rfl) (by decide) (by decide) rfl (by decide) ?_
          refine mm_istore rfl (by decide) ?_
          refine mm_iload rfl rfl ?_
          refine mm_bipush (v := nI 21) rfl (by decide) ?_
          refine mm_icmp_ne (tgt := 108) rfl (by decide) (fun h98 => ?_) (fun h98 => ?_)
          · exact absurd rfl h98
          · refine mm_bipush (v := -2) rfl (by decide) ?_
            refine mm_istore rfl (by decide) ?_
            refine mm_goto (tgt := 128) rfl (by decide) ?_
            refine mm_iload rfl rfl ?_
            refine mm_if_ge (tgt := 145) rfl (by decide) (fun h130 => ?_) (fun h130 => ?_)
            · exact absurd hr (Int32.not_lt.mpr h130)
            · refine mm_iload_n rfl rfl ?_
              refine mm_if_neN (tgt := 143) rfl (by decide) (by omega) (fun h134 => ?_) (fun h134 => ?_)
              · refine mm_iload_n rfl rfl ?_
                refine mm_ireturn rfl rfl rfl (by decide) (by decide) ?_
                exact ⟨rfl, rfl, by rw [if_neg h134], rfl⟩
              · refine mm_aload_n rfl rfl ?_
                refine mm_bipush (v := nI 21) rfl (by decide) ?_
                refine mm_putI rfl rfl rfl (by decide) rfl (Or.inl rfl) rfl rfl ?_
                refine mm_iload_n rfl rfl ?_
                refine mm_ireturn rfl rfl rfl (by decide) (by decide) ?_
                exact ⟨rfl, rfl, by rw [if_pos h134], rfl⟩
        · exact absurd h58 (by omega)
    · refine mm_iload rfl rfl ?_
      refine mm_aload_n rfl rfl ?_
      refine mm_getI (x := nI z) rfl rfl rfl (by decide) rfl hz ?_
      refine mm_icmp_geN (tgt := 154) rfl (by decide) (by omega) (by omega) (fun h45 => ?_) (fun h45 => ?_)
      · exact absurd h45 (by omega)
      · refine mm_aload_n rfl rfl ?_
        refine mm_getR rfl rfl rfl (by decide) rfl (mm_gi hG 69 30 85 (by decide)) ?_
        refine mm_iload rfl rfl ?_
        refine mm_rdN (x := nI j) rfl (by decide) rfl (by decide) (by omega) (by decide) rfl hcd ?_
        refine mm_sipush (v := nI 1000) rfl (by decide) ?_
        refine mm_icmp_ltN (tgt := 81) rfl (by decide) (by omega) (by omega) (fun h58 => ?_) (fun h58 => ?_)
        · refine mm_aload_n rfl rfl ?_
          refine mm_aload_n rfl rfl ?_
          refine mm_getR rfl rfl rfl (by decide) rfl (mm_gi hG 69 30 85 (by decide)) ?_
          refine mm_iload rfl rfl ?_
          refine mm_rdN (x := nI j) rfl (by decide) rfl (by decide) (by omega) (by decide) rfl hcd ?_
          refine mm_isV1 (M2 := qR_resolve) wd_665 qR_resolve_k (by decide) h1 rfl (by decide) (Nat.le_of_ble_eq_true rfl) (by decide) (by decide) rfl (by decide) ?_
          refine mm_istore rfl (by decide) ?_
          refine mm_iload rfl rfl ?_
          refine mm_bipush (v := nI 21) rfl (by decide) ?_
          refine mm_icmp_ne (tgt := 108) rfl (by decide) (fun h98 => ?_) (fun h98 => ?_)
          · refine mm_iload rfl rfl ?_
            refine mm_if_lt (tgt := 128) rfl (by decide) (fun h110 => ?_) (fun h110 => ?_)
            · exact absurd h110 (by rw [hc]; exact nI_pos (by omega))
            · refine mm_iload rfl rfl ?_
              refine mm_bipush (v := nI 21) rfl (by decide) ?_
              refine mm_icmp_ge (tgt := 128) rfl (by decide) (fun h117 => ?_) (fun h117 => ?_)
              · exact absurd h117 (by rw [hc]; exact nI_ge hk2 (by decide))
              · refine mm_aload_n rfl rfl ?_
                refine mm_iload rfl rfl ?_
                refine mm_isV1 (M2 := qR_perform) wd_669 qR_perform_k (by decide) h2 rfl (by decide) (Nat.le_of_ble_eq_true rfl) (by decide) (by decide) rfl (by decide) ?_
                refine mm_istore rfl (by decide) ?_
                refine mm_iload rfl rfl ?_
                refine mm_if_ge (tgt := 145) rfl (by decide) (fun h130 => ?_) (fun h130 => ?_)
                · exact absurd hr (Int32.not_lt.mpr h130)
                · refine mm_iload_n rfl rfl ?_
                  refine mm_if_neN (tgt := 143) rfl (by decide) (by omega) (fun h134 => ?_) (fun h134 => ?_)
                  · refine mm_iload_n rfl rfl ?_
                    refine mm_ireturn rfl rfl rfl (by decide) (by decide) ?_
                    exact ⟨rfl, rfl, by rw [if_neg h134], rfl⟩
                  · refine mm_aload_n rfl rfl ?_
                    refine mm_bipush (v := nI 21) rfl (by decide) ?_
                    refine mm_putI rfl rfl rfl (by decide) rfl (Or.inl rfl) rfl rfl ?_
                    refine mm_iload_n rfl rfl ?_
                    refine mm_ireturn rfl rfl rfl (by decide) (by decide) ?_
                    exact ⟨rfl, rfl, by rw [if_pos h134], rfl⟩
          · exact absurd ((nI_eq (by omega) (by decide)).mp (hc.symm.trans h98)) (by omega)
        · exact absurd h58 (by omega)
    · refine mm_iload rfl rfl ?_
      refine mm_aload_n rfl rfl ?_
      refine mm_getI (x := nI z) rfl rfl rfl (by decide) rfl hz ?_
      refine mm_icmp_geN (tgt := 154) rfl (by decide) (by omega) (by omega) (fun h45 => ?_) (fun h45 => ?_)
      · exact absurd h45 (by omega)
      · refine mm_aload_n rfl rfl ?_
        refine mm_getR rfl rfl rfl (by decide) rfl (mm_gi hG 69 30 85 (by decide)) ?_
        refine mm_iload rfl rfl ?_
        refine mm_rdN (x := nI j) rfl (by decide) rfl (by decide) (by omega) (by decide) rfl hcd ?_
        refine mm_sipush (v := nI 1000) rfl (by decide) ?_
        refine mm_icmp_ltN (tgt := 81) rfl (by decide) (by omega) (by omega) (fun h58 => ?_) (fun h58 => ?_)
        · refine mm_aload_n rfl rfl ?_
          refine mm_aload_n rfl rfl ?_
          refine mm_getR rfl rfl rfl (by decide) rfl (mm_gi hG 69 30 85 (by decide)) ?_
          refine mm_iload rfl rfl ?_
          refine mm_rdN (x := nI j) rfl (by decide) rfl (by decide) (by omega) (by decide) rfl hcd ?_
          refine mm_isV1 (M2 := qR_resolve) wd_665 qR_resolve_k (by decide) h1 rfl (by decide) (Nat.le_of_ble_eq_true rfl) (by decide) (by decide) rfl (by decide) ?_
          refine mm_istore rfl (by decide) ?_
          refine mm_iload rfl rfl ?_
          refine mm_bipush (v := nI 21) rfl (by decide) ?_
          refine mm_icmp_ne (tgt := 108) rfl (by decide) (fun h98 => ?_) (fun h98 => ?_)
          · refine mm_iload rfl rfl ?_
            refine mm_if_lt (tgt := 128) rfl (by decide) (fun h110 => ?_) (fun h110 => ?_)
            · refine mm_iload rfl rfl ?_
              refine mm_if_ge (tgt := 145) rfl (by decide) (fun h130 => ?_) (fun h130 => ?_)
              · exact absurd hr (Int32.not_lt.mpr h130)
              · refine mm_iload_n rfl rfl ?_
                refine mm_if_neN (tgt := 143) rfl (by decide) (by omega) (fun h134 => ?_) (fun h134 => ?_)
                · refine mm_iload_n rfl rfl ?_
                  refine mm_ireturn rfl rfl rfl (by decide) (by decide) ?_
                  exact ⟨rfl, rfl, by rw [if_neg h134], rfl⟩
                · refine mm_aload_n rfl rfl ?_
                  refine mm_bipush (v := nI 21) rfl (by decide) ?_
                  refine mm_putI rfl rfl rfl (by decide) rfl (Or.inl rfl) rfl rfl ?_
                  refine mm_iload_n rfl rfl ?_
                  refine mm_ireturn rfl rfl rfl (by decide) (by decide) ?_
                  exact ⟨rfl, rfl, by rw [if_pos h134], rfl⟩
            · refine mm_iload rfl rfl ?_
              refine mm_bipush (v := nI 21) rfl (by decide) ?_
              refine mm_icmp_ge (tgt := 128) rfl (by decide) (fun h117 => ?_) (fun h117 => ?_)
              · refine mm_iload rfl rfl ?_
                refine mm_if_ge (tgt := 145) rfl (by decide) (fun h130 => ?_) (fun h130 => ?_)
                · exact absurd hr (Int32.not_lt.mpr h130)
                · refine mm_iload_n rfl rfl ?_
                  refine mm_if_neN (tgt := 143) rfl (by decide) (by omega) (fun h134 => ?_) (fun h134 => ?_)
                  · refine mm_iload_n rfl rfl ?_
                    refine mm_ireturn rfl rfl rfl (by decide) (by decide) ?_
                    exact ⟨rfl, rfl, by rw [if_neg h134], rfl⟩
                  · refine mm_aload_n rfl rfl ?_
                    refine mm_bipush (v := nI 21) rfl (by decide) ?_
                    refine mm_putI rfl rfl rfl (by decide) rfl (Or.inl rfl) rfl rfl ?_
                    refine mm_iload_n rfl rfl ?_
                    refine mm_ireturn rfl rfl rfl (by decide) (by decide) ?_
                    exact ⟨rfl, rfl, by rw [if_pos h134], rfl⟩
              · exact hc.elim (fun e => absurd e h110) (fun e => absurd (Int32.le_of_lt e) h117)
          · exact hc.elim (fun e => absurd (h98 ▸ e) (by decide)) (fun e => absurd (h98 ▸ e) (by decide))
        · exact absurd h58 (by omega)
set_option maxRecDepth 100000 in
set_option maxHeartbeats 400000 in
theorem lE_rp0 {E : mm_E} {G : mm_G} {J : mm_J} (hG : mm_GI G) {z rc : Nat} (hz : J 63 2 = nI z) (hz2 : z ≤ 12) (hrc : J 63 3 = nI rc) (hrc2 : rc < 2) (h : rc = 1 ∨ z = 0) : mm_Ret E qE_replay [.ref 0] 86 J G (some (.int (-2))) 86 J G := by
  refine mm_Met.of qE_replay_ok (by decide) (mm_cats rfl) (Nat.le_of_ble_eq_true rfl) ?_
  refine mm_aload_n rfl rfl ?_
  refine mm_getR rfl rfl rfl (by decide) rfl (mm_gi hG 0 4 63 (by decide)) ?_
  refine mm_getI (x := nI rc) rfl rfl rfl (by decide) rfl hrc ?_
  refine mm_if_neN (tgt := 20) rfl (by decide) (by omega) (fun h7 => ?_) (fun h7 => ?_)
  · refine mm_bipush (v := -2) rfl (by decide) ?_
    refine mm_ireturn rfl rfl rfl (by decide) (by decide) ?_
    exact ⟨rfl, rfl, rfl, rfl⟩
  · refine mm_aload_n rfl rfl ?_
    refine mm_getR rfl rfl rfl (by decide) rfl (mm_gi hG 0 4 63 (by decide)) ?_
    refine mm_getI (x := nI z) rfl rfl rfl (by decide) rfl hz ?_
    refine mm_if_neN (tgt := 23) rfl (by decide) (by omega) (fun h17 => ?_) (fun h17 => ?_)
    · exact absurd (h.elim (fun e => absurd e (by omega)) id) h17
    · refine mm_bipush (v := -2) rfl (by decide) ?_
      refine mm_ireturn rfl rfl rfl (by decide) (by decide) ?_
      exact ⟨rfl, rfl, rfl, rfl⟩
set_option maxRecDepth 100000 in
set_option maxHeartbeats 400000 in
theorem lE_rp1 {E : mm_E} {G : mm_G} {J J2 : mm_J} {G2 : mm_G} {r : Int32} (hG : mm_GI G) {z R : Nat} (hz : J 63 2 = nI z) (hz2 : z ≤ 12) (hz0 : 0 < z) (hrc : J 63 3 = nI 0) (hR : J 0 7 = nI R) (hR1 : 1 ≤ R) (hR2 : R ≤ 9) (kk : ∀ a0 z6, ¬ a0 < 0 → mm_Go E qE_replay 53 [some (.ref 0), some (.int (nI R)), some (.int (nI 0)), some (.int a0), some (.int (nI 0)), some (.int (nI 0)), z6] [] 86 (mm_set J 0 7 (nI 1)) G 0 0 (mm_Fm E qE_replay (mm_is (some (.int r)) 86 J2 G2))) : mm_Ret E qE_replay [.ref 0] 86 J G (some (.int r)) 86 J2 G2 := by
  refine mm_Met.of qE_replay_ok (by decide) (mm_cats rfl) (Nat.le_of_ble_eq_true rfl) ?_
  refine mm_aload_n rfl rfl ?_
  refine mm_getR rfl rfl rfl (by decide) rfl (mm_gi hG 0 4 63 (by decide)) ?_
  refine mm_getI (x := nI 0) rfl rfl rfl (by decide) rfl hrc ?_
  refine mm_if_neN (tgt := 20) rfl (by decide) (by omega) (fun h7 => ?_) (fun h7 => ?_)
  · exact absurd rfl h7
  · refine mm_aload_n rfl rfl ?_
    refine mm_getR rfl rfl rfl (by decide) rfl (mm_gi hG 0 4 63 (by decide)) ?_
    refine mm_getI (x := nI z) rfl rfl rfl (by decide) rfl hz ?_
    refine mm_if_neN (tgt := 23) rfl (by decide) (by omega) (fun h17 => ?_) (fun h17 => ?_)
    · refine mm_aload_n rfl rfl ?_
      refine mm_getI (x := nI R) rfl rfl rfl (by decide) rfl hR ?_
      refine mm_istore_n rfl (by decide) ?_
      refine mm_aload_n rfl rfl ?_
      refine mm_iconst (v := nI 1) rfl (by decide) ?_
      refine mm_putI rfl rfl rfl (by decide) rfl (Or.inl rfl) rfl rfl ?_
      refine mm_iconst (v := nI 0) rfl (by decide) ?_
      refine mm_istore_n rfl (by decide) ?_
      refine mm_iconst (v := nI 0) rfl (by decide) ?_
      refine mm_istore_n rfl (by decide) ?_
      refine mm_iconst (v := nI 0) rfl (by decide) ?_
      refine mm_istore rfl (by decide) ?_
      refine mm_iload rfl rfl ?_
      refine mm_iload_n rfl rfl ?_
      refine mm_icmp_geN (tgt := 136) rfl (by decide) (by omega) (by omega) (fun h43 => ?_) (fun h43 => ?_)
      · exact absurd h43 (by omega)
      · refine mm_iload_n rfl rfl ?_
        refine mm_if_ltN (tgt := 136) rfl (by decide) (by omega) ?_
        refine mm_iconst (v := nI 0) rfl (by decide) ?_
        refine mm_istore rfl (by decide) ?_
        exact kk _ _ (by decide)
    · exact absurd h17 (by omega)
set_option maxRecDepth 100000 in
set_option maxHeartbeats 400000 in
theorem lR_pl0 {E : mm_E} {G : mm_G} {J : mm_J} {z rc : Nat} (hz : J 69 31 = nI z) (hz2 : z ≤ 12) (hrc : J 69 32 = nI rc) (hrc2 : rc < 2) (h : rc = 1 ∨ z = 0) : mm_Ret E qR_play [.ref 69] 86 J G (some (.int (-2))) 86 J G := by
  refine mm_Met.of qR_play_ok (by decide) (mm_cats rfl) (Nat.le_of_ble_eq_true rfl) ?_
  refine mm_aload_n rfl rfl ?_
  refine mm_getI (x := nI rc) rfl rfl rfl (by decide) rfl hrc ?_
  refine mm_if_neN (tgt := 14) rfl (by decide) (by omega) (fun h4 => ?_) (fun h4 => ?_)
  · refine mm_bipush (v := -2) rfl (by decide) ?_
    refine mm_ireturn rfl rfl rfl (by decide) (by decide) ?_
    exact ⟨rfl, rfl, rfl, rfl⟩
  · refine mm_aload_n rfl rfl ?_
    refine mm_getI (x := nI z) rfl rfl rfl (by decide) rfl hz ?_
    refine mm_if_neN (tgt := 17) rfl (by decide) (by omega) (fun h11 => ?_) (fun h11 => ?_)
    · exact absurd (h.elim (fun e => absurd e (by omega)) id) h11
    · refine mm_bipush (v := -2) rfl (by decide) ?_
      refine mm_ireturn rfl rfl rfl (by decide) (by decide) ?_
      exact ⟨rfl, rfl, rfl, rfl⟩
set_option maxRecDepth 100000 in
set_option maxHeartbeats 400000 in
theorem lR_pl1 {E : mm_E} {G : mm_G} {J J2 : mm_J} {r : Int32} {z R : Nat} (hz : J 69 31 = nI z) (hz2 : z ≤ 12) (hz0 : 0 < z) (hrc : J 69 32 = nI 0) (hR : J 69 7 = nI R) (hR1 : 1 ≤ R) (hR2 : R ≤ 9) (kk : ∀ z5, mm_Go E qR_play 39 [some (.ref 69), some (.int (nI R)), some (.int (nI 0)), some (.int (nI 0)), some (.int (nI 0)), z5] [] 86 (mm_set J 69 7 (nI 1)) G 0 0 (mm_Fm E qR_play (mm_is (some (.int r)) 86 J2 G))) : mm_Ret E qR_play [.ref 69] 86 J G (some (.int r)) 86 J2 G := by
  refine mm_Met.of qR_play_ok (by decide) (mm_cats rfl) (Nat.le_of_ble_eq_true rfl) ?_
  refine mm_aload_n rfl rfl ?_
  refine mm_getI (x := nI 0) rfl rfl rfl (by decide) rfl hrc ?_
  refine mm_if_neN (tgt := 14) rfl (by decide) (by omega) (fun h4 => ?_) (fun h4 => ?_)
  · exact absurd rfl h4
  · refine mm_aload_n rfl rfl ?_
    refine mm_getI (x := nI z) rfl rfl rfl (by decide) rfl hz ?_
    refine mm_if_neN (tgt := 17) rfl (by decide) (by omega) (fun h11 => ?_) (fun h11 => ?_)
    · refine mm_aload_n rfl rfl ?_
      refine mm_getI (x := nI R) rfl rfl rfl (by decide) rfl hR ?_
      refine mm_istore_n rfl (by decide) ?_
      refine mm_iconst (v := nI 0) rfl (by decide) ?_
      refine mm_istore_n rfl (by decide) ?_
      refine mm_aload_n rfl rfl ?_
      refine mm_iconst (v := nI 1) rfl (by decide) ?_
      refine mm_putI rfl rfl rfl (by decide) rfl (Or.inl rfl) rfl rfl ?_
      refine mm_iconst (v := nI 0) rfl (by decide) ?_
      refine mm_istore_n rfl (by decide) ?_
      refine mm_iload_n rfl rfl ?_
      refine mm_iload_n rfl rfl ?_
      refine mm_icmp_geN (tgt := 160) rfl (by decide) (by omega) (by omega) (fun h33 => ?_) (fun h33 => ?_)
      · exact absurd h33 (by omega)
      · refine mm_iconst (v := nI 0) rfl (by decide) ?_
        refine mm_istore rfl (by decide) ?_
        exact kk _
    · exact absurd h11 (by omega)
/-- the rounds and events on both sides -/
theorem rp_all {E : mm_E} {R : Nat} (hR : R ≤ 9) : ∀ (n : Nat) {v : ed_V} {X : mm_J} {G : mm_G} {M : mm_J} {rd i dn : Nat}, ed_CX v X G → ed_CM v M → ed_I v → v_m v + n < 2 ^ 29 → dn + n ≤ 1000 → rd < R → i ≤ v_z v → 0 < v_z v → (R - rd) * (v_z v + 1) ≤ n + i → (dn = 0 → v_t v = 1) → (0 < i ∨ 0 < rd → 0 < dn) →
    ∃ (q : Nat) (v' : ed_V) (X' : mm_J) (G' : mm_G) (M' : mm_J), ed_CF v' X' G' X ∧ ed_CM v' M' ∧ ed_I v' ∧ v_m v' ≤ v_m v + n ∧ v_E v' = v_E v ∧ q ≤ 1000 ∧
      (∀ a0 z6, ¬ a0 < 0 → mm_Go E qE_replay 53 [some (.ref 0), some (.int (nI R)), some (.int (nI dn)), some (.int a0), some (.int (nI rd)), some (.int (nI i)), z6] [] 86 X G 0 0 (mm_Fm E qE_replay (mm_is (some (.int (nI q))) 86 X' G'))) ∧
      (∀ K GM z5, mm_GI GM → mm_Go E qR_play 39 [some (.ref 69), some (.int (nI R)), some (.int (nI dn)), some (.int (nI rd)), some (.int (nI i)), z5] [] 86 (mm_mx K M) GM 0 0 (mm_Fm E qR_play (mm_is (some (.int (nI q))) 86 (mm_mx K M') GM)))
  | 0, v, X, G, M, rd, i, dn, hX, hM, hI, hm, hdn, hrd, hi, hz0, hf, hd0, hd1 => by
    have h1 : 1 * (v_z v + 1) ≤ (R - rd) * (v_z v + 1) := Nat.mul_le_mul_right _ (by omega)
    omega
  | n + 1, v, X, G, M, rd, i, dn, hX, hM, hI, hm, hdn, hrd, hi, hz0, hf, hd0, hd1 => by
    have hG := hX.1
    have hE : xE (v_E v) X := hX.2.2.2.2.2.2.1
    have hEm : mE (v_E v) M := hM.2.2.2.2.2.1
    have iE1 : iE (v_E v) := hI.1.2.2.2.2.2.1
    obtain ⟨e1, e2, e3⟩ := id hE
    obtain ⟨m1, m2, m3⟩ := id hEm
    obtain ⟨y1, y2, y3⟩ := id iE1
    replace e1 : X 63 2 = nI (v_z v) := e1
    replace e2 : X 63 3 = nI (v_rc v) := e2
    replace m1 : M 69 31 = nI (v_z v) := m1
    replace m2 : M 69 32 = nI (v_rc v) := m2
    replace y1 : v_z v ≤ 12 := y1
    replace y2 : v_rc v < 2 := y2
    by_cases hiz : i = v_z v
    · have hp : (R - rd) * (v_z v + 1) = (R - (rd + 1)) * (v_z v + 1) + (v_z v + 1) := by
        rw [← Nat.succ_mul]
        congr 1
        omega
      by_cases hl : rd + 1 < R
      · obtain ⟨q, v', X', G', M', c1, c2, c3, c4, c5, c6, c7, c8⟩ := rp_all (E := E) hR n (v := v) (rd := rd + 1) (i := 0) (dn := dn) hX hM hI (by omega) (by omega) hl (Nat.zero_le _) hz0 (by generalize (R - (rd + 1)) * (v_z v + 1) = w at hp ⊢; omega) hd0 (fun _ => hd1 (Or.inl (by omega)))
        exact ⟨q, v', X', G', M', c1, c2, c3, by omega, c5, c6, fun a0 z6 ha => lE_rpN hG hR e1 y1 hrd (by omega) ha hiz hl (c7 a0 z6 ha), fun K GM z5 hGM => lR_plN (J := mm_mx K M) hGM hR m1 y1 hrd (by omega) hiz hl (c8 K GM z5 hGM)⟩
      · have hdp := hd1 (Or.inl (by omega))
        refine ⟨dn, v, X, G, M, ed_CF.rf hX, hM, hI, by omega, rfl, by omega, fun a0 z6 ha => ?_, fun K GM z5 hGM => lR_plF (J := mm_mx K M) hGM hR m1 y1 hrd (by omega) hiz (by omega)⟩
        have c := lE_rpF (E := E) (a0 := a0) (z6 := z6) hG hR e1 y1 hrd (show dn ≤ 1000 by omega) hiz (show rd + 1 = R by omega)
        rw [if_neg (by omega)] at c
        exact c
    · have hi2 : i < v_z v := by omega
      obtain ⟨r, v1, ⟨X1, G1, a1, a2⟩, ⟨M1, b1, b2⟩, g1, g2, g3, g4⟩ := pp_event (E := E) hX hM hI (show v_m v < 2 ^ 29 by omega) hi2
      have hz1 : v_z v1 = v_z v := congrArg Prod.fst g3
      have hcd := (e3 i hi2).1
      have hty := (e3 i hi2).2
      have hcm := m3 i hi2
      replace hcd : X 64 i = v_ec v i := hcd
      replace hty : X 65 i = nI (ed_b (v_ek v i)) := hty
      replace hcm : M 85 i = if v_ek v i = true then nI 1000 + v_ec v i else v_ec v i := hcm
      have hE1 : X1 63 2 = nI (v_z v) := by
        rw [← hz1]
        exact a1.1.2.2.2.2.2.2.1.1
      by_cases hr : r < 0
      · by_cases hd : dn = 0
        · subst hd
          refine ⟨0, (v1.1, v1.2.1, v1.2.2.1, v1.2.2.2.1, (1, nI 21, v1.2.2.2.2.1.2.2.1, v1.2.2.2.2.1.2.2.2.1, v1.2.2.2.2.1.2.2.2.2.1, v1.2.2.2.2.1.2.2.2.2.2.1, v1.2.2.2.2.1.2.2.2.2.2.2), v1.2.2.2.2.2.1, v1.2.2.2.2.2.2.1, v1.2.2.2.2.2.2.2), mm_set (mm_set X1 0 8 (nI 21)) 0 7 (nI 1), G1, mm_set M1 69 8 (nI 21), ⟨((a1.l (nI 21)).t 1).1, ((a1.l (nI 21)).t 1).2⟩, ?_, ?_, by show v_m v1 ≤ _; omega, g3, by omega, fun a0 z6 ha => ?_, fun K GM z5 hGM => ?_⟩
          · have c := b1.l (nI 21)
            have ht : v_t v1 = 1 := (g4 hr).trans (hd0 rfl)
            rw [← ht]
            exact c
          · obtain ⟨⟨q1, q2, q3, q4, q5, q6, q7, q8⟩, q9⟩ := g1
            exact ⟨⟨q1, q2, q3, q4, ⟨Nat.le_refl 1, (by decide : 1 ≤ 9), q5.2.2⟩, q6, q7, q8⟩, iC_no (k := 21) rfl (by decide)⟩
          · have c := lE_rpS (E := E) (a0 := a0) (z6 := z6) hG hR e1 y1 hrd (show 0 ≤ 1000 by omega) hi2 hcd hty ha a2 hr a1.1.1 hE1
            rw [if_pos rfl] at c
            exact c
          · have c := lR_plS (E := E) (z5 := z5) (J := mm_mx K M) hGM hR m1 y1 hrd (show 0 ≤ 1000 by omega) hi2 hcm (b2 K GM hGM) hr
            rw [if_pos rfl, mx_set (by decide)] at c
            exact c
        · refine ⟨dn, v1, X1, G1, M1, a1, b1, g1, by omega, g3, by omega, fun a0 z6 ha => ?_, fun K GM z5 hGM => ?_⟩
          · have c := lE_rpS (E := E) (a0 := a0) (z6 := z6) hG hR e1 y1 hrd (show dn ≤ 1000 by omega) hi2 hcd hty ha a2 hr a1.1.1 hE1
            rw [if_neg hd] at c
            exact c
          · have c := lR_plS (E := E) (z5 := z5) (J := mm_mx K M) hGM hR m1 y1 hrd (show dn ≤ 1000 by omega) hi2 hcm (b2 K GM hGM) hr
            rw [if_neg hd] at c
            exact c
      · obtain ⟨q, v', X', G', M', c1, c2, c3, c4, c5, c6, c7, c8⟩ := rp_all (E := E) hR n (v := v1) (rd := rd) (i := i + 1) (dn := dn + 1) a1.1 b1 g1 (by omega) (by omega) hrd (by omega) (by omega) (by rw [hz1]; omega) (fun q => by omega) (fun _ => by omega)
        exact ⟨q, v', X', G', M', ⟨c1.1, fun a ha => (c1.2 a ha).trans (a1.2 a ha)⟩, c2, c3, by omega, c5.trans g3, c6, fun a0 z6 ha => lE_rpY hG hR e1 y1 hrd (by omega) hi2 hcd hty ha a2 hr (fun z6 => c7 r z6 hr), fun K GM z5 hGM => lR_plY (J := mm_mx K M) hGM hR m1 y1 hrd (by omega) hi2 hcm (b2 K GM hGM) hr (fun z5 => c8 K GM z5 hGM)⟩
theorem pp_replay {E : mm_E} {v : ed_V} {X : mm_J} {G : mm_G} {M : mm_J} (hX : ed_CX v X G) (hM : ed_CM v M) (hI : ed_I v) (hm : v_m v < 2 ^ 28) : ed_PP E qE_replay [.ref 0] qR_play [.ref 69] v X G M 117 := by
  have hG := hX.1
  have hE : xE (v_E v) X := hX.2.2.2.2.2.2.1
  have hEm : mE (v_E v) M := hM.2.2.2.2.2.1
  have iE1 : iE (v_E v) := hI.1.2.2.2.2.2.1
  obtain ⟨e1, e2, e3⟩ := id hE
  obtain ⟨m1, m2, m3⟩ := id hEm
  obtain ⟨y1, y2, y3⟩ := id iE1
  replace e1 : X 63 2 = nI (v_z v) := e1
  replace e2 : X 63 3 = nI (v_rc v) := e2
  replace m1 : M 69 31 = nI (v_z v) := m1
  replace m2 : M 69 32 = nI (v_rc v) := m2
  replace y1 : v_z v ≤ 12 := y1
  replace y2 : v_rc v < 2 := y2
  obtain ⟨j1, j2, j3⟩ := hI.1.2.2.2.2.1
  replace j1 : 1 ≤ v_t v := j1
  replace j2 : v_t v ≤ 9 := j2
  have t1 : X 0 7 = nI (v_t v) := hX.2.2.2.2.2.1.1
  have w1 : M 69 7 = nI (v_t v) := hM.2.2.2.2.1.1
  by_cases h : v_rc v = 1 ∨ v_z v = 0
  · exact ⟨-2, v, ⟨_, _, lE_rp0 hG e1 y1 e2 y2 h, ed_CF.rf hX⟩, ⟨_, hM, fun K GM hGM => lR_pl0 (J := mm_mx K M) m1 y1 m2 y2 h⟩, hI, Nat.le_add_right _ _, rfl, fun _ => rfl⟩
  · have hr0 : v_rc v = 0 := by omega
    have hz0 : 0 < v_z v := by omega
    have hI1 : ed_I (v.1, v.2.1, v.2.2.1, v.2.2.2.1, (1, v.2.2.2.2.1.2.1, v.2.2.2.2.1.2.2.1, v.2.2.2.2.1.2.2.2.1, v.2.2.2.2.1.2.2.2.2.1, v.2.2.2.2.1.2.2.2.2.2.1, v.2.2.2.2.1.2.2.2.2.2.2), v.2.2.2.2.2.1, v.2.2.2.2.2.2.1, v.2.2.2.2.2.2.2) := by
      obtain ⟨⟨q1, q2, q3, q4, q5, q6, q7, q8⟩, q9⟩ := hI
      exact ⟨⟨q1, q2, q3, q4, ⟨Nat.le_refl 1, (by decide : 1 ≤ 9), q5.2.2⟩, q6, q7, q8⟩, q9⟩
    have hmul : (v_t v - 0) * (v_z v + 1) ≤ 9 * 13 := Nat.mul_le_mul (by omega) (by omega)
    obtain ⟨q, v', X', G', M', c1, c2, c3, c4, c5, c6, c7, c8⟩ := rp_all (E := E) (R := v_t v) j2 117 (v := (v.1, v.2.1, v.2.2.1, v.2.2.2.1, (1, v.2.2.2.2.1.2.1, v.2.2.2.2.1.2.2.1, v.2.2.2.2.1.2.2.2.1, v.2.2.2.2.1.2.2.2.2.1, v.2.2.2.2.1.2.2.2.2.2.1, v.2.2.2.2.1.2.2.2.2.2.2), v.2.2.2.2.2.1, v.2.2.2.2.2.2.1, v.2.2.2.2.2.2.2)) (rd := 0) (i := 0) (dn := 0) ((ed_CF.rf hX).t 1).1 (hM.t 1) hI1 (by show v_m v + 117 < 2 ^ 29; omega) (by omega) (by omega) (Nat.zero_le _) hz0 (by show (v_t v - 0) * (v_z v + 1) ≤ 117 + 0; omega) (fun _ => rfl) (fun q => by omega)
    refine ⟨nI q, v', ⟨X', G', lE_rp1 hG e1 y1 hz0 (by rw [e2, hr0]) t1 j1 j2 c7, ⟨c1.1, fun a ha => (c1.2 a ha).trans (mm_set_ne _ _ _ (by omega))⟩⟩, ⟨M', c2, fun K GM hGM => ?_⟩, c3, c4, c5, fun q => absurd q (nI_pos (by omega))⟩
    refine lR_pl1 (J := mm_mx K M) (z := v_z v) m1 y1 hz0 (m2.trans (by rw [hr0])) w1 j1 j2 (fun z5 => ?_)
    rw [mx_set (by decide)]
    exact c8 K GM z5 hGM
