theorem kb_rng {x : Int32} {lo hi : Nat} (hh : hi < 2 ^ 31) (hl : lo < 2 ^ 31) (h1 : ¬ x < nI lo) (h2 : ¬ nI hi < x) : ∃ k, lo ≤ k ∧ k ≤ hi ∧ x = nI k := by
  have e1 := nI_toInt hh
  have e2 := nI_toInt hl
  rw [Int32.lt_iff_toInt_lt] at h1 h2
  refine ⟨x.toInt.toNat, by omega, by omega, ?_⟩
  rw [← Int32.toInt_inj, nI_toInt (by omega)]
  omega
theorem kb_ite {P : Int32 → Prop} {i k : Nat} {a b : Int32} (h1 : P a) (h2 : P b) : P (if i = k then a else b) := by
  split
  · exact h1
  · exact h2
theorem ed_CF.tr {v v1 : ed_V} {X X1 X2 : mm_J} {G G1 : mm_G} (h : ed_CF v X2 G X1) (h1 : ed_CF v1 X1 G1 X) : ed_CF v X2 G X := ⟨h.1, fun a ha => (h.2 a ha).trans (h1.2 a ha)⟩
theorem ed_CX.gE {v : ed_V} {X X' : mm_J} {G : mm_G} {a : ed_VE} (h : ed_CX v X G) (hf : ∀ i, ¬ i = 63 → ¬ i = 64 → ¬ i = 65 → X' i = X i) (he : xE a X') : ed_CX (v.1, v.2.1, v.2.2.1, v.2.2.2.1, v.2.2.2.2.1, a, v.2.2.2.2.2.2.1, v.2.2.2.2.2.2.2) X' G :=
  ⟨h.1, h.2.1.fr (hf 2 (by decide) (by decide) (by decide)) (hf 3 (by decide) (by decide) (by decide)) (hf 1 (by decide) (by decide) (by decide)), h.2.2.1.fr (hf 4 (by decide) (by decide) (by decide)) (hf 5 (by decide) (by decide) (by decide)), h.2.2.2.1.fr (fun i _ _ => hf i (by omega) (by omega) (by omega)), h.2.2.2.2.1.fr (fun i _ _ => hf i (by omega) (by omega) (by omega)), h.2.2.2.2.2.1.fr (hf 0 (by decide) (by decide) (by decide)), he, h.2.2.2.2.2.2.2.1.fr (hf 66 (by decide) (by decide) (by decide)), h.2.2.2.2.2.2.2.2.fr (hf 60 (by decide) (by decide) (by decide)) (hf 61 (by decide) (by decide) (by decide)) (hf 62 (by decide) (by decide) (by decide))⟩
theorem ed_CX.gN {v : ed_V} {X X' : mm_J} {G : mm_G} {a : ed_VN} (h : ed_CX v X G) (hf : ∀ i, ¬ i = 66 → X' i = X i) (he : xN a X') : ed_CX (v.1, v.2.1, v.2.2.1, v.2.2.2.1, v.2.2.2.2.1, v.2.2.2.2.2.1, a, v.2.2.2.2.2.2.2) X' G :=
  ⟨h.1, h.2.1.fr (hf 2 (by decide)) (hf 3 (by decide)) (hf 1 (by decide)), h.2.2.1.fr (hf 4 (by decide)) (hf 5 (by decide)), h.2.2.2.1.fr (fun i _ _ => hf i (by omega)), h.2.2.2.2.1.fr (fun i _ _ => hf i (by omega)), h.2.2.2.2.2.1.fr (hf 0 (by decide)), h.2.2.2.2.2.2.1.fr (hf 63 (by decide)) (hf 64 (by decide)) (hf 65 (by decide)), he, h.2.2.2.2.2.2.2.2.fr (hf 60 (by decide)) (hf 61 (by decide)) (hf 62 (by decide))⟩
theorem ed_CX.gP {v : ed_V} {X X' : mm_J} {G : mm_G} {a : ed_VP} (h : ed_CX v X G) (hf : ∀ i, ¬ i = 4 → ¬ i = 5 → X' i = X i) (he : xP a X') : ed_CX (v.1, a, v.2.2.1, v.2.2.2.1, v.2.2.2.2.1, v.2.2.2.2.2.1, v.2.2.2.2.2.2.1, v.2.2.2.2.2.2.2) X' G :=
  ⟨h.1, h.2.1.fr (hf 2 (by decide) (by decide)) (hf 3 (by decide) (by decide)) (hf 1 (by decide) (by decide)), he, h.2.2.2.1.fr (fun i _ _ => hf i (by omega) (by omega)), h.2.2.2.2.1.fr (fun i _ _ => hf i (by omega) (by omega)), h.2.2.2.2.2.1.fr (hf 0 (by decide) (by decide)), h.2.2.2.2.2.2.1.fr (hf 63 (by decide) (by decide)) (hf 64 (by decide) (by decide)) (hf 65 (by decide) (by decide)), h.2.2.2.2.2.2.2.1.fr (hf 66 (by decide) (by decide)), h.2.2.2.2.2.2.2.2.fr (hf 60 (by decide) (by decide)) (hf 61 (by decide) (by decide)) (hf 62 (by decide) (by decide))⟩
theorem ed_CM.gE {v : ed_V} {M M' : mm_J} {a : ed_VE} (h : ed_CM v M) (hf : ∀ c k, ¬ (c = 85 ∨ (c = 69 ∧ (k = 31 ∨ k = 32))) → M' c k = M c k) (he : mE a M') : ed_CM (v.1, v.2.1, v.2.2.1, v.2.2.2.1, v.2.2.2.2.1, a, v.2.2.2.2.2.2.1, v.2.2.2.2.2.2.2) M' := by
  obtain ⟨N, hN⟩ : ∃ N : mm_J, N = fun c k => if c = 85 ∨ (c = 69 ∧ (k = 31 ∨ k = 32)) then M' c k else M c k := ⟨_, rfl⟩
  have e : M' = N := by
    rw [hN]
    funext c k
    split
    · rfl
    · rename_i q
      exact hf c k q
  rw [e] at he ⊢
  exact ⟨(by rw [hN]; exact h.1), (by rw [hN]; exact h.2.1), (by rw [hN]; exact h.2.2.1), (by rw [hN]; exact h.2.2.2.1), (by rw [hN]; exact h.2.2.2.2.1), he, (by rw [hN]; exact h.2.2.2.2.2.2.1), (by rw [hN]; exact h.2.2.2.2.2.2.2)⟩
theorem ed_CM.gN {v : ed_V} {M M' : mm_J} {a : ed_VN} (h : ed_CM v M) (hf : ∀ c k, ¬ (c = 69 ∧ (k = 33 ∨ k = 34 ∨ k = 35)) → M' c k = M c k) (he : mN a M') : ed_CM (v.1, v.2.1, v.2.2.1, v.2.2.2.1, v.2.2.2.2.1, v.2.2.2.2.2.1, a, v.2.2.2.2.2.2.2) M' := by
  obtain ⟨N, hN⟩ : ∃ N : mm_J, N = fun c k => if c = 69 ∧ (k = 33 ∨ k = 34 ∨ k = 35) then M' c k else M c k := ⟨_, rfl⟩
  have e : M' = N := by
    rw [hN]
    funext c k
    split
    · rfl
    · rename_i q
      exact hf c k q
  rw [e] at he ⊢
  exact ⟨(by rw [hN]; exact h.1), (by rw [hN]; exact h.2.1), (by rw [hN]; exact h.2.2.1), (by rw [hN]; exact h.2.2.2.1), (by rw [hN]; exact h.2.2.2.2.1), (by rw [hN]; exact h.2.2.2.2.2.1), he, (by rw [hN]; exact h.2.2.2.2.2.2.2)⟩
theorem ed_CM.gP {v : ed_V} {M M' : mm_J} {a : ed_VP} (h : ed_CM v M) (hf : ∀ c k, ¬ (c = 73 ∨ c = 74) → M' c k = M c k) (he : mP a M') : ed_CM (v.1, a, v.2.2.1, v.2.2.2.1, v.2.2.2.2.1, v.2.2.2.2.2.1, v.2.2.2.2.2.2.1, v.2.2.2.2.2.2.2) M' := by
  obtain ⟨N, hN⟩ : ∃ N : mm_J, N = fun c k => if c = 73 ∨ c = 74 then M' c k else M c k := ⟨_, rfl⟩
  have e : M' = N := by
    rw [hN]
    funext c k
    split
    · rfl
    · rename_i q
      exact hf c k q
  rw [e] at he ⊢
  exact ⟨(by rw [hN]; exact h.1), he, (by rw [hN]; exact h.2.2.1), (by rw [hN]; exact h.2.2.2.1), (by rw [hN]; exact h.2.2.2.2.1), (by rw [hN]; exact h.2.2.2.2.2.1), (by rw [hN]; exact h.2.2.2.2.2.2.1), (by rw [hN]; exact h.2.2.2.2.2.2.2)⟩
/-- an event is noted on both sides -/
theorem pp_note {E : mm_E} {v : ed_V} {X : mm_J} {G : mm_G} {M : mm_J} (hX : ed_CX v X G) (hM : ed_CM v M) (hI : ed_I v) {k : Bool} {c : Int32} (h1 : k = true → ed_ch c) (h2 : k = false → ∃ j, j ≤ 15 ∧ c = nI j) : ∃ v' : ed_V, (∃ X', mm_Ret E qV_note [.ref 63, .int c, .int (nI (ed_b k))] 86 X G none 86 X' G ∧ ed_CF v' X' G X) ∧ ed_sM E qR_jot [.ref 69, .int (if k = true then nI 1000 + c else c)] M none v' ∧ ed_I v' ∧ v_m v' = v_m v := by
  have hG := hX.1
  have hE : xE (v_E v) X := hX.2.2.2.2.2.2.1
  have hEm : mE (v_E v) M := hM.2.2.2.2.2.1
  have iE1 : iE (v_E v) := hI.1.2.2.2.2.2.1
  obtain ⟨e1, e2, e3⟩ := id hE
  obtain ⟨m1, m2, m3⟩ := id hEm
  obtain ⟨y1, y2, y3⟩ := id iE1
  replace e1 : X 63 2 = nI (v_z v) := e1
  replace e2 : X 63 3 = nI (v_rc v) := e2
  replace m1 : M 69 31 = nI (v_z v) := m1
  replace m2 : M 69 32 = nI (v_rc v) := m2
  replace y1 : v_z v ≤ 12 := y1
  replace y2 : v_rc v < 2 := y2
  by_cases h : v_rc v = 0 ∨ v_z v = 12
  · exact ⟨v, ⟨_, sV_note0 e2 y2 e1 y1 h, ed_CF.rf hX⟩, ⟨_, hM, fun K GM hGM => sR_jot0 (J := mm_mx K M) m2 y2 m1 y1 h⟩, hI, rfl⟩
  · have hr : v_rc v = 1 := by omega
    have hz : v_z v < 12 := by omega
    have hb : ed_b k < 2 := by cases k <;> decide
    have hIz : ed_I (v.1, v.2.1, v.2.2.1, v.2.2.2.1, v.2.2.2.2.1, (v_z v + 1, v.2.2.2.2.2.1.2.1, (fun i => if i = v_z v then k else v_ek v i), (fun i => if i = v_z v then c else v_ec v i)), v.2.2.2.2.2.2.1, v.2.2.2.2.2.2.2) := by
      obtain ⟨⟨g1, g2, g3, g4, g5, g6, g7, g8⟩, g9⟩ := id hI
      refine ⟨⟨g1, g2, g3, g4, g5, ⟨?_, y2, fun i hi => ?_⟩, g7, g8⟩, g9⟩
      · show v_z v + 1 ≤ 12
        omega
      · show ((if i = v_z v then k else v_ek v i) = true → ed_ch (if i = v_z v then c else v_ec v i)) ∧ ((if i = v_z v then k else v_ek v i) = false → ∃ j, j ≤ 15 ∧ (if i = v_z v then c else v_ec v i) = nI j)
        replace hi : i < v_z v + 1 := hi
        by_cases q : i = v_z v
        · rw [if_pos q, if_pos q]
          exact ⟨h1, h2⟩
        · rw [if_neg q, if_neg q]
          exact y3 i (by show i < v_z v; omega)
    refine ⟨_, ⟨_, sV_note1 hG (by rw [e2, hr]) e1 hz (ed_nb hb), ed_CX.gE (a := (v_z v + 1, v_rc v, (fun i => if i = v_z v then k else v_ek v i), (fun i => if i = v_z v then c else v_ec v i))) hX (fun i q1 q2 q3 => by rw [mm_set_ne _ _ _ q1, mm_set_ne _ _ _ q3, mm_set_ne _ _ _ q2]) ⟨rfl, e2, fun i hi => ?_⟩, fun a ha => by rw [mm_set_ne _ _ _ (by omega), mm_set_ne _ _ _ (by omega), mm_set_ne _ _ _ (by omega)]⟩, ⟨mm_set (mm_set M 85 (v_z v) (if k = true then nI 1000 + c else c)) 69 31 (nI (v_z v + 1)), ed_CM.gE (a := (v_z v + 1, v_rc v, (fun i => if i = v_z v then k else v_ek v i), (fun i => if i = v_z v then c else v_ec v i))) hM (fun a j q => by rw [mm_set_o (by omega), mm_set_o (by omega)]) ⟨rfl, m2, fun i hi => ?_⟩, fun K GM hGM => ?_⟩, hIz, rfl⟩
    · show mm_set (mm_set (mm_set X 64 (v_z v) c) 65 (v_z v) (nI (ed_b k))) 63 2 (nI (v_z v + 1)) 64 i = (if i = v_z v then c else v_ec v i) ∧ mm_set (mm_set (mm_set X 64 (v_z v) c) 65 (v_z v) (nI (ed_b k))) 63 2 (nI (v_z v + 1)) 65 i = nI (ed_b (if i = v_z v then k else v_ek v i))
      replace hi : i < v_z v + 1 := hi
      by_cases q : i = v_z v
      · rw [if_pos q, if_pos q, q, mm_set_o (by omega), mm_set_o (by omega), mm_set_i, mm_set_o (by omega), mm_set_i]
        exact ⟨rfl, rfl⟩
      · rw [if_neg q, if_neg q, mm_set_o (by omega), mm_set_o (by omega), mm_set_o (by omega), mm_set_o (by omega), mm_set_o (by omega), mm_set_o (by omega)]
        exact e3 i (by show i < v_z v; omega)
    · show mm_set (mm_set M 85 (v_z v) (if k = true then nI 1000 + c else c)) 69 31 (nI (v_z v + 1)) 85 i = if (if i = v_z v then k else v_ek v i) = true then nI 1000 + (if i = v_z v then c else v_ec v i) else (if i = v_z v then c else v_ec v i)
      replace hi : i < v_z v + 1 := hi
      by_cases q : i = v_z v
      · rw [if_pos q, if_pos q, q, mm_set_o (by omega), mm_set_i]
      · rw [if_neg q, if_neg q, mm_set_o (by omega), mm_set_o (by omega)]
        exact m3 i (by show i < v_z v; omega)
    · have cc := sR_jot1 (E := E) (J := mm_mx K M) (c := if k = true then nI 1000 + c else c) hGM (by rw [show mm_mx K M 69 32 = M 69 32 from rfl, m2, hr]) m1 hz
      rw [mx_set (by decide), mx_set (by decide)] at cc
      exact cc
def ed_P2 (E : mm_E) (mX : mm_M) (aX : List Value) (mM : mm_M) (aM : List Value) (v : ed_V) (X : mm_J) (G : mm_G) (M : mm_J) (s : Nat) : Prop := ∃ (r : Int32) (v' : ed_V), ed_sX E mX aX X G (some (.int r)) v' ∧ ed_sM E mM aM M (some (.int r)) v' ∧ ed_I v' ∧ v_m v' ≤ v_m v + s
theorem ed_BB.of2 {E : mm_E} {mX mM : mm_M} {aX aM : List Value} {v : ed_V} {J : mm_J} {G : mm_G} {s : Nat} (h : ed_P2 E mX aX mM aM v J G J s) : ed_BB E mX aX mM aM v J G s := by
  obtain ⟨r, v', ⟨X', G', h1, h2, h3⟩, ⟨M', h4, h5⟩, h6, h7⟩ := h
  have h8 := h5 X' G' h2.1
  rw [mx_eq h3] at h8
  exact ed_BB.ret h1 h8 ⟨h2.mx, h4.mx, h6⟩ h7
theorem p2_type {E : mm_E} {v : ed_V} {X : mm_J} {G : mm_G} {M : mm_J} (hX : ed_CX v X G) (hM : ed_CM v M) (hI : ed_I v) (hm : v_m v < 2 ^ 28) {c : Int32} : ed_P2 E qE_type [.ref 0, .int c] qR_type [.ref 69, .int c] v X G M 1 := by
  by_cases hc : ed_ch c
  · obtain ⟨r, v1, ⟨X1, G1, a1, a2⟩, ⟨M1, b1, b2⟩, i1, m1, -⟩ := pp_insert (E := E) hX hM hI (by omega) hc
    by_cases hr : r < 0
    · exact ⟨r, v1, ⟨X1, G1, sE_type0 hX.1 hc a1 hr, a2⟩, ⟨M1, b1, fun K GM hGM => sR_type0 (b2 K GM hGM) hr⟩, i1, m1⟩
    · obtain ⟨v2, ⟨X2, c1, c2⟩, ⟨M2, d1, d2⟩, i2, m2⟩ := pp_note (E := E) (k := true) a2.1 b1 i1 (fun _ => hc) (fun q => by cases q)
      exact ⟨r, v2, ⟨X2, G1, sE_type1 hX.1 hc a1 hr a2.1.1 c1, c2.tr a2⟩, ⟨M2, d1, fun K GM hGM => sR_type1 (b2 K GM hGM) hr (d2 K GM hGM)⟩, i2, by rw [m2]; exact m1⟩
  · exact ⟨-1, v, ⟨_, _, sE_typeX hc, ed_CF.rf hX⟩, ⟨_, hM, fun K GM hGM => sR_type0 (sR_insertX hc) (by decide)⟩, hI, Nat.le_succ _⟩
theorem p2_command {E : mm_E} {v : ed_V} {X : mm_J} {G : mm_G} {M : mm_J} (hX : ed_CX v X G) (hM : ed_CM v M) (hI : ed_I v) (hm : v_m v < 2 ^ 28) {x : Int32} : ed_P2 E qE_command [.ref 0, .int x] qR_command [.ref 69, .int x] v X G M 117 := by
  by_cases h1 : x < 0 ∨ nI 21 < x
  · exact ⟨-1, v, ⟨_, _, sE_commandX h1, ed_CF.rf hX⟩, ⟨_, hM, fun K GM hGM => sR_commandX h1⟩, hI, Nat.le_add_right _ _⟩
  · obtain ⟨k, -, hk, rfl⟩ := kb_rng (x := x) (lo := 0) (hi := 21) (by decide) (by decide) (fun q => h1 (Or.inl q)) (fun q => h1 (Or.inr q))
    by_cases hk2 : k < 21
    · obtain ⟨r, v1, ⟨X1, G1, a1, a2⟩, ⟨M1, b1, b2⟩, i1, m1, -⟩ := pp_perform (E := E) hX hM hI (by omega) hk2
      exact ⟨r, v1, ⟨X1, G1, sE_commandP hk2 a1, a2⟩, ⟨M1, b1, fun K GM hGM => sR_commandP hk2 (b2 K GM hGM)⟩, i1, by omega⟩
    · obtain rfl : k = 21 := by omega
      obtain ⟨r, v1, ⟨X1, G1, a1, a2⟩, ⟨M1, b1, b2⟩, i1, m1, -⟩ := pp_replay (E := E) hX hM hI hm
      exact ⟨r, v1, ⟨X1, G1, sE_command21 a1, a2⟩, ⟨M1, b1, fun K GM hGM => sR_command21 (b2 K GM hGM)⟩, i1, m1⟩
theorem p2_press {E : mm_E} {v : ed_V} {X : mm_J} {G : mm_G} {M : mm_J} (hX : ed_CX v X G) (hM : ed_CM v M) (hI : ed_I v) (hm : v_m v < 2 ^ 28) {x : Int32} : ed_P2 E qE_press [.ref 0, .int x] qR_press [.ref 69, .int x] v X G M 117 := by
  by_cases h1 : x < 0 ∨ nI 15 < x
  · refine ⟨-1, v, ⟨_, _, sE_pressX ?_, ed_CF.rf hX⟩, ⟨_, hM, fun K GM hGM => sR_pressX h1⟩, hI, Nat.le_add_right _ _⟩
    exact decide_eq_false (fun q => h1.elim (fun z => absurd z (Int32.not_lt.mpr q.1)) (fun z => absurd z (Int32.not_lt.mpr q.2)))
  · obtain ⟨key, -, hk, rfl⟩ := kb_rng (x := x) (lo := 0) (hi := 15) (by decide) (by decide) (fun q => h1 (Or.inl q)) (fun q => h1 (Or.inr q))
    have hky : ed_ky (nI key) = true := decide_eq_true ⟨Int32.not_lt.mp (fun q => h1 (Or.inl q)), Int32.not_lt.mp (fun q => h1 (Or.inr q))⟩
    obtain ⟨cal, y, hcal, ⟨X0, s1, s2⟩, ⟨M0, t1, t2⟩, hI0⟩ := pp_key (E := E) hX hM hI hk
    have note : ∀ {v1 : ed_V} {X1 : mm_J} {G1 : mm_G} {M1 : mm_J}, ed_CX v1 X1 G1 → ed_CM v1 M1 → ed_I v1 → _ := fun a b c => pp_note (E := E) (k := false) (c := nI key) a b c (fun q => by cases q) (fun _ => ⟨key, hk, rfl⟩)
    by_cases h21 : cal = nI 21
    · obtain ⟨r, v1, ⟨X1, G1, a1, a2⟩, ⟨M1, b1, b2⟩, i1, m1, -⟩ := pp_replay (E := E) s2.1 t1 hI0 hm
      by_cases hr : r < 0
      · exact ⟨r, v1, ⟨X1, G1, sE_press210 hX.1 hky s1 h21 a1 hr, a2.tr s2⟩, ⟨M1, b1, fun K GM hGM => sR_press210 hk (t2 K GM hGM) h21 (b2 K GM hGM) hr⟩, i1, m1⟩
      · obtain ⟨v2, ⟨X2, c1, c2⟩, ⟨M2, d1, d2⟩, i2, m2⟩ := note a2.1 b1 i1
        exact ⟨r, v2, ⟨X2, G1, sE_press211 hX.1 hky s1 h21 a1 hr a2.1.1 c1, c2.tr (a2.tr s2)⟩, ⟨M2, d1, fun K GM hGM => sR_press211 hk (t2 K GM hGM) h21 (b2 K GM hGM) hr (d2 K GM hGM)⟩, i2, by rw [m2]; exact m1⟩
    · by_cases hx : cal < 0 ∨ nI 21 < cal
      · by_cases hr : cal < 0
        · exact ⟨cal, _, ⟨X0, G, sE_pressP0 hX.1 hky s1 h21 (sE_performX hx) hr, s2⟩, ⟨M0, t1, fun K GM hGM => sR_pressN0 hk (t2 K GM hGM) hx hr⟩, hI0, Nat.le_add_right _ _⟩
        · obtain ⟨v2, ⟨X2, c1, c2⟩, ⟨M2, d1, d2⟩, i2, m2⟩ := note s2.1 t1 hI0
          exact ⟨cal, v2, ⟨X2, G, sE_pressP1 hX.1 hky s1 h21 (sE_performX hx) hr s2.1.1 c1, c2.tr s2⟩, ⟨M2, d1, fun K GM hGM => sR_pressN1 hk (t2 K GM hGM) hx hr (d2 K GM hGM)⟩, i2, by rw [m2]; exact Nat.le_add_right _ _⟩
      · obtain ⟨k, -, hk9, hck⟩ := kb_rng (x := cal) (lo := 0) (hi := 21) (by decide) (by decide) (fun q => hx (Or.inl q)) (fun q => hx (Or.inr q))
        have hk2 : k < 21 := by
          rcases Nat.lt_or_ge k 21 with q | q
          · exact q
          · exact absurd (by rw [hck, show k = 21 by omega]) h21
        obtain ⟨r, v1, ⟨X1, G1, a1, a2⟩, ⟨M1, b1, b2⟩, i1, m1, -⟩ := pp_perform (E := E) s2.1 t1 hI0 (show v_m v < 2 ^ 29 by omega) hk2
        rw [← hck] at a1
        rw [← hck] at b2
        replace m1 : v_m v1 ≤ v_m v + 1 := m1
        by_cases hr : r < 0
        · exact ⟨r, v1, ⟨X1, G1, sE_pressP0 hX.1 hky s1 h21 a1 hr, a2.tr s2⟩, ⟨M1, b1, fun K GM hGM => sR_pressP0 hk (t2 K GM hGM) hk2 hck (b2 K GM hGM) hr⟩, i1, by omega⟩
        · obtain ⟨v2, ⟨X2, c1, c2⟩, ⟨M2, d1, d2⟩, i2, m2⟩ := note a2.1 b1 i1
          exact ⟨r, v2, ⟨X2, G1, sE_pressP1 hX.1 hky s1 h21 a1 hr a2.1.1 c1, c2.tr (a2.tr s2)⟩, ⟨M2, d1, fun K GM hGM => sR_pressP1 hk (t2 K GM hGM) hk2 hck (b2 K GM hGM) hr (d2 K GM hGM)⟩, i2, by rw [m2]; omega⟩
theorem p2_argument {E : mm_E} {v : ed_V} {X : mm_J} {G : mm_G} {M : mm_J} (hX : ed_CX v X G) (hM : ed_CM v M) (hI : ed_I v) {x : Int32} : ed_P2 E qE_argument [.ref 0, .int x] qR_argument [.ref 69, .int x] v X G M 0 := by
  obtain ⟨hG, ⟨a1, a2, a3⟩, ⟨p1, p2, p3, p4⟩, hK, ⟨s1, s2⟩, ⟨t1, t2, t3, t4, t5⟩, hE, hN, hB⟩ := id hX
  obtain ⟨⟨b1, b2, b3⟩, ⟨o1, o2, o3⟩, hKm, ⟨u1, u2⟩, ⟨w1, w2, w3, w4, w5, w6, w7⟩, hEm, hNm, hBm⟩ := id hM
  obtain ⟨⟨⟨i1, i2⟩, iP1, iK1, iH1, ⟨j1, j2, j3⟩, iE1, iN1, iB1⟩, iC1⟩ := id hI
  replace a1 : X 2 1 = nI (v_n v) := a1
  replace a2 : ∀ i, i < v_n v → X 3 i = v_tx v i := a2
  replace a3 : X 1 3 = nI (v_q v) := a3
  replace p1 : X 4 4 = v_mk v := p1
  replace s1 : X 16 3 = nI (v_m v) := s1
  replace t1 : X 0 7 = nI (v_t v) := t1
  replace t2 : X 0 8 = v_l v := t2
  replace t3 : X 0 9 = nI (v_g v) := t3
  replace t4 : X 0 10 = nI (v_y v) := t4
  replace t5 : X 0 11 = nI (v_ud v) := t5
  replace b1 : M 69 3 = nI (v_n v) := b1
  replace b2 : ∀ i, i < v_n v → M 70 i = v_tx v i := b2
  replace b3 : M 69 5 = nI (v_q v) := b3
  replace o1 : M 69 6 = v_mk v := o1
  replace w1 : M 69 7 = nI (v_t v) := w1
  replace w2 : M 69 8 = v_l v := w2
  replace w3 : M 69 9 = nI (v_g v) := w3
  replace w4 : M 69 17 = nI (v_y v) := w4
  replace w5 : M 69 24 = nI (v_ud v) := w5
  replace w6 : M 69 15 = nI (v_ya v) := w6
  replace w7 : M 69 16 = nI (v_yl v) := w7
  replace u1 : M 69 23 = nI (v_m v) := u1
  replace i1 : v_n v ≤ 100 := i1
  replace i2 : v_q v ≤ v_n v := i2
  replace iP1 : iP (v_n v) (v_P v) := iP1
  replace j1 : 1 ≤ v_t v := j1
  replace j2 : v_t v ≤ 9 := j2
  replace j3 : v_g v ≤ 100 := j3
  have hE : xE (v_E v) X := hX.2.2.2.2.2.2.1
  have hEm : mE (v_E v) M := hM.2.2.2.2.2.1
  have iE1 : iE (v_E v) := hI.1.2.2.2.2.2.1
  obtain ⟨e1, e2, e3⟩ := id hE
  obtain ⟨m1, m2, m3⟩ := id hEm
  obtain ⟨y1, y2, y3⟩ := id iE1
  replace e1 : X 63 2 = nI (v_z v) := e1
  replace e2 : X 63 3 = nI (v_rc v) := e2
  replace m1 : M 69 31 = nI (v_z v) := m1
  replace m2 : M 69 32 = nI (v_rc v) := m2
  replace y1 : v_z v ≤ 12 := y1
  replace y2 : v_rc v < 2 := y2
  by_cases h1 : x < nI 1 ∨ nI 9 < x
  · exact ⟨-1, v, ⟨_, _, sE_argument0 h1, ed_CF.rf hX⟩, ⟨_, hM, fun K GM hGM => sR_argument0 h1⟩, hI, Nat.le_refl _⟩
  · obtain ⟨k, hk1, hk, rfl⟩ := kb_rng (x := x) (lo := 1) (hi := 9) (by decide) (by decide) (fun q => h1 (Or.inl q)) (fun q => h1 (Or.inr q))
    refine ⟨nI 0, _, ⟨_, _, sE_argument1 hk1 hk, (ed_CF.rf hX).t k⟩, ⟨_, hM.t k, fun K GM hGM => ?_⟩, ⟨⟨⟨i1, i2⟩, iP1, iK1, iH1, ⟨hk1, hk, j3⟩, iE1, iN1, iB1⟩, iC1⟩, Nat.le_refl _⟩
    have c := sR_argument1 (E := E) (G := GM) (J := mm_mx K M) hk1 hk
    rw [mx_set (by decide)] at c
    exact c
theorem p2_macro {E : mm_E} {v : ed_V} {X : mm_J} {G : mm_G} {M : mm_J} (hX : ed_CX v X G) (hM : ed_CM v M) (hI : ed_I v) {b : Nat} (hb : b < 2) : ed_P2 E qE_macro [.ref 0, .int (nI b)] qR_macro [.ref 69, .int (nI b)] v X G M 0 := by
  obtain ⟨hG, ⟨a1, a2, a3⟩, ⟨p1, p2, p3, p4⟩, hK, ⟨s1, s2⟩, ⟨t1, t2, t3, t4, t5⟩, hE, hN, hB⟩ := id hX
  obtain ⟨⟨b1, b2, b3⟩, ⟨o1, o2, o3⟩, hKm, ⟨u1, u2⟩, ⟨w1, w2, w3, w4, w5, w6, w7⟩, hEm, hNm, hBm⟩ := id hM
  obtain ⟨⟨⟨i1, i2⟩, iP1, iK1, iH1, ⟨j1, j2, j3⟩, iE1, iN1, iB1⟩, iC1⟩ := id hI
  replace a1 : X 2 1 = nI (v_n v) := a1
  replace a2 : ∀ i, i < v_n v → X 3 i = v_tx v i := a2
  replace a3 : X 1 3 = nI (v_q v) := a3
  replace p1 : X 4 4 = v_mk v := p1
  replace s1 : X 16 3 = nI (v_m v) := s1
  replace t1 : X 0 7 = nI (v_t v) := t1
  replace t2 : X 0 8 = v_l v := t2
  replace t3 : X 0 9 = nI (v_g v) := t3
  replace t4 : X 0 10 = nI (v_y v) := t4
  replace t5 : X 0 11 = nI (v_ud v) := t5
  replace b1 : M 69 3 = nI (v_n v) := b1
  replace b2 : ∀ i, i < v_n v → M 70 i = v_tx v i := b2
  replace b3 : M 69 5 = nI (v_q v) := b3
  replace o1 : M 69 6 = v_mk v := o1
  replace w1 : M 69 7 = nI (v_t v) := w1
  replace w2 : M 69 8 = v_l v := w2
  replace w3 : M 69 9 = nI (v_g v) := w3
  replace w4 : M 69 17 = nI (v_y v) := w4
  replace w5 : M 69 24 = nI (v_ud v) := w5
  replace w6 : M 69 15 = nI (v_ya v) := w6
  replace w7 : M 69 16 = nI (v_yl v) := w7
  replace u1 : M 69 23 = nI (v_m v) := u1
  replace i1 : v_n v ≤ 100 := i1
  replace i2 : v_q v ≤ v_n v := i2
  replace iP1 : iP (v_n v) (v_P v) := iP1
  replace j1 : 1 ≤ v_t v := j1
  replace j2 : v_t v ≤ 9 := j2
  replace j3 : v_g v ≤ 100 := j3
  have hE : xE (v_E v) X := hX.2.2.2.2.2.2.1
  have hEm : mE (v_E v) M := hM.2.2.2.2.2.1
  have iE1 : iE (v_E v) := hI.1.2.2.2.2.2.1
  obtain ⟨e1, e2, e3⟩ := id hE
  obtain ⟨m1, m2, m3⟩ := id hEm
  obtain ⟨y1, y2, y3⟩ := id iE1
  replace e1 : X 63 2 = nI (v_z v) := e1
  replace e2 : X 63 3 = nI (v_rc v) := e2
  replace m1 : M 69 31 = nI (v_z v) := m1
  replace m2 : M 69 32 = nI (v_rc v) := m2
  replace y1 : v_z v ≤ 12 := y1
  replace y2 : v_rc v < 2 := y2
  by_cases h1 : b = v_rc v
  · subst h1
    exact ⟨-1, v, ⟨_, _, sE_macro0 hG e2 y2, ed_CF.rf hX⟩, ⟨_, hM, fun K GM hGM => sR_macro0 (J := mm_mx K M) m2 y2⟩, hI, Nat.le_refl _⟩
  · by_cases h2 : b = 0
    · subst h2
      have hr1 : v_rc v = 1 := by omega
      rw [hr1] at e2 m2
      refine ⟨nI (v_z v), (v.1, v.2.1, v.2.2.1, v.2.2.2.1, v.2.2.2.2.1, (v.2.2.2.2.2.1.1, 0, v.2.2.2.2.2.1.2.2.1, v.2.2.2.2.2.1.2.2.2), v.2.2.2.2.2.2.1, v.2.2.2.2.2.2.2), ⟨_, _, ?_, ed_CX.gE (X' := mm_set X 63 3 (nI 0)) (a := (v_z v, 0, v_ek v, v_ec v)) hX (fun i q1 q2 q3 => mm_set_ne _ _ _ q1) ⟨e1, rfl, e3⟩, fun a ha => mm_set_ne _ _ _ (by omega)⟩, ⟨mm_set M 69 32 (nI 0), ed_CM.gE (a := (v_z v, 0, v_ek v, v_ec v)) hM (fun a j q => mm_set_o (by omega)) ⟨m1, rfl, m3⟩, fun K GM hGM => ?_⟩, ⟨⟨⟨i1, i2⟩, iP1, iK1, iH1, ⟨j1, j2, j3⟩, ⟨y1, Nat.zero_lt_two, y3⟩, iN1, iB1⟩, iC1⟩, Nat.le_refl _⟩
      · have c := sE_macro2 (E := E) hG e2
        rw [e1] at c
        exact c
      · have c := sR_macro2 (E := E) (G := GM) (J := mm_mx K M) m2
        rw [show mm_mx K M 69 31 = nI (v_z v) from m1, mx_set (by decide)] at c
        exact c
    · obtain rfl : b = 1 := by omega
      have hr0 : v_rc v = 0 := by omega
      rw [hr0] at e2 m2
      refine ⟨nI 0, (v.1, v.2.1, v.2.2.1, v.2.2.2.1, v.2.2.2.2.1, (0, 1, v.2.2.2.2.2.1.2.2.1, v.2.2.2.2.2.1.2.2.2), v.2.2.2.2.2.2.1, v.2.2.2.2.2.2.2), ⟨_, _, sE_macro1 hG e2, ed_CX.gE (a := (0, 1, v_ek v, v_ec v)) hX (fun i q1 q2 q3 => by rw [mm_set_ne _ _ _ q1, mm_set_ne _ _ _ q1]) ⟨rfl, rfl, fun i hi => absurd hi (Nat.not_lt_zero i)⟩, fun a ha => by rw [mm_set_ne _ _ _ (by omega), mm_set_ne _ _ _ (by omega)]⟩, ⟨mm_set (mm_set M 69 32 (nI 1)) 69 31 (nI 0), ed_CM.gE (a := (0, 1, v_ek v, v_ec v)) hM (fun a j q => by rw [mm_set_o (by omega), mm_set_o (by omega)]) ⟨rfl, rfl, fun i hi => absurd hi (Nat.not_lt_zero i)⟩, fun K GM hGM => ?_⟩, ⟨⟨⟨i1, i2⟩, iP1, iK1, iH1, ⟨j1, j2, j3⟩, ⟨Nat.zero_le _, Nat.one_lt_two, fun i hi => absurd hi (Nat.not_lt_zero i)⟩, iN1, iB1⟩, iC1⟩, Nat.le_refl _⟩
      have c := sR_macro1 (E := E) (G := GM) (J := mm_mx K M) m2
      rw [mx_set (by decide), mx_set (by decide)] at c
      exact c
theorem p2_marker {E : mm_E} {v : ed_V} {X : mm_J} {G : mm_G} {M : mm_J} (hX : ed_CX v X G) (hM : ed_CM v M) (hI : ed_I v) {x : Int32} {b : Nat} (hb : b < 2) : ed_P2 E qE_marker [.ref 0, .int x, .int (nI b)] qR_marker [.ref 69, .int x, .int (nI b)] v X G M 0 := by
  obtain ⟨hG, ⟨a1, a2, a3⟩, ⟨p1, p2, p3, p4⟩, hK, ⟨s1, s2⟩, ⟨t1, t2, t3, t4, t5⟩, hE, hN, hB⟩ := id hX
  obtain ⟨⟨b1, b2, b3⟩, ⟨o1, o2, o3⟩, hKm, ⟨u1, u2⟩, ⟨w1, w2, w3, w4, w5, w6, w7⟩, hEm, hNm, hBm⟩ := id hM
  obtain ⟨⟨⟨i1, i2⟩, iP1, iK1, iH1, ⟨j1, j2, j3⟩, iE1, iN1, iB1⟩, iC1⟩ := id hI
  replace a1 : X 2 1 = nI (v_n v) := a1
  replace a2 : ∀ i, i < v_n v → X 3 i = v_tx v i := a2
  replace a3 : X 1 3 = nI (v_q v) := a3
  replace p1 : X 4 4 = v_mk v := p1
  replace s1 : X 16 3 = nI (v_m v) := s1
  replace t1 : X 0 7 = nI (v_t v) := t1
  replace t2 : X 0 8 = v_l v := t2
  replace t3 : X 0 9 = nI (v_g v) := t3
  replace t4 : X 0 10 = nI (v_y v) := t4
  replace t5 : X 0 11 = nI (v_ud v) := t5
  replace b1 : M 69 3 = nI (v_n v) := b1
  replace b2 : ∀ i, i < v_n v → M 70 i = v_tx v i := b2
  replace b3 : M 69 5 = nI (v_q v) := b3
  replace o1 : M 69 6 = v_mk v := o1
  replace w1 : M 69 7 = nI (v_t v) := w1
  replace w2 : M 69 8 = v_l v := w2
  replace w3 : M 69 9 = nI (v_g v) := w3
  replace w4 : M 69 17 = nI (v_y v) := w4
  replace w5 : M 69 24 = nI (v_ud v) := w5
  replace w6 : M 69 15 = nI (v_ya v) := w6
  replace w7 : M 69 16 = nI (v_yl v) := w7
  replace u1 : M 69 23 = nI (v_m v) := u1
  replace i1 : v_n v ≤ 100 := i1
  replace i2 : v_q v ≤ v_n v := i2
  replace iP1 : iP (v_n v) (v_P v) := iP1
  replace j1 : 1 ≤ v_t v := j1
  replace j2 : v_t v ≤ 9 := j2
  replace j3 : v_g v ≤ 100 := j3
  have hE : xE (v_E v) X := hX.2.2.2.2.2.2.1
  have hEm : mE (v_E v) M := hM.2.2.2.2.2.1
  have iE1 : iE (v_E v) := hI.1.2.2.2.2.2.1
  obtain ⟨e1, e2, e3⟩ := id hE
  obtain ⟨m1, m2, m3⟩ := id hEm
  obtain ⟨y1, y2, y3⟩ := id iE1
  replace e1 : X 63 2 = nI (v_z v) := e1
  replace e2 : X 63 3 = nI (v_rc v) := e2
  replace m1 : M 69 31 = nI (v_z v) := m1
  replace m2 : M 69 32 = nI (v_rc v) := m2
  replace y1 : v_z v ≤ 12 := y1
  replace y2 : v_rc v < 2 := y2
  by_cases h1 : x < 0 ∨ nI 3 < x
  · exact ⟨-1, v, ⟨_, _, sE_marker0 (h1.imp id (fun q => (by rw [Int32.le_iff_toInt_le]; rw [Int32.lt_iff_toInt_lt] at q; rw [nI_toInt (by decide)] at q ⊢; omega))), ed_CF.rf hX⟩, ⟨_, hM, fun K GM hGM => sR_marker0 h1⟩, hI, Nat.le_refl _⟩
  · obtain ⟨k, -, hk, rfl⟩ := (kb_rng (x := x) (lo := 0) (hi := 3) (by decide) (by decide) (fun q => h1 (Or.inl q)) (fun q => h1 (Or.inr q)))
    refine ⟨nI 0, (v.1, (v.2.1.1, (fun i => if i = k then nI (v_q v) else v_mr v i), (fun i => if i = k then nI b else v_fo v i)), v.2.2.1, v.2.2.2.1, v.2.2.2.2.1, v.2.2.2.2.2.1, v.2.2.2.2.2.2.1, v.2.2.2.2.2.2.2), ⟨_, _, ?_, ed_CX.gP (X' := mm_set (mm_set X 4 k (nI (v_q v))) 5 k (nI b)) (a := (v_mk v, (fun i => if i = k then nI (v_q v) else v_mr v i), (fun i => if i = k then nI b else v_fo v i))) hX (fun i q1 q2 => by rw [mm_set_ne _ _ _ q2, mm_set_ne _ _ _ q1]) ⟨?_, fun i hi => ?_, ?_, fun i hi => ?_⟩, fun a ha => by rw [mm_set_ne _ _ _ (by omega), mm_set_ne _ _ _ (by omega)]⟩, ⟨mm_set (mm_set M 73 k (nI (v_q v))) 74 k (nI b), ed_CM.gP (a := (v_mk v, (fun i => if i = k then nI (v_q v) else v_mr v i), (fun i => if i = k then nI b else v_fo v i))) hM (fun a j q => by rw [mm_set_o (by omega), mm_set_o (by omega)]) ⟨o1, fun i hi => ?_, fun i hi => ?_⟩, fun K GM hGM => ?_⟩, ⟨⟨⟨i1, i2⟩, ⟨iP1.1, fun i hi => ⟨kb_ite (P := ed_vq (v_n v)) (Or.inr ⟨v_q v, i2, rfl⟩) (iP1.2 i hi).1, kb_ite (P := ed_vb) ⟨b, hb, rfl⟩ (iP1.2 i hi).2⟩⟩, iK1, iH1, ⟨j1, j2, j3⟩, iE1, iN1, iB1⟩, iC1⟩, Nat.le_refl _⟩
    · have c := sE_marker1 (E := E) (J := X) hG (show k < 4 by omega) (ed_nb hb)
      rw [a3] at c
      exact c
    · rw [mm_set_o (by omega), mm_set_o (by omega)]
      exact p1
    · show mm_set (mm_set X 4 k (nI (v_q v))) 5 k (nI b) 4 i = if i = k then nI (v_q v) else v_mr v i
      by_cases q : i = k
      · rw [if_pos q, q, mm_set_o (by omega), mm_set_i]
      · rw [if_neg q, mm_set_o (by omega), mm_set_o (by omega)]
        exact p2 i hi
    · rw [mm_set_o (by omega), mm_set_o (by omega)]
      exact p3
    · show mm_set (mm_set X 4 k (nI (v_q v))) 5 k (nI b) 5 i = if i = k then nI b else v_fo v i
      by_cases q : i = k
      · rw [if_pos q, q, mm_set_i]
      · rw [if_neg q, mm_set_o (by omega), mm_set_o (by omega)]
        exact p4 i hi
    · show mm_set (mm_set M 73 k (nI (v_q v))) 74 k (nI b) 73 i = if i = k then nI (v_q v) else v_mr v i
      by_cases q : i = k
      · rw [if_pos q, q, mm_set_o (by omega), mm_set_i]
      · rw [if_neg q, mm_set_o (by omega), mm_set_o (by omega)]
        exact o2 i hi
    · show mm_set (mm_set M 73 k (nI (v_q v))) 74 k (nI b) 74 i = if i = k then nI b else v_fo v i
      by_cases q : i = k
      · rw [if_pos q, q, mm_set_i]
      · rw [if_neg q, mm_set_o (by omega), mm_set_o (by omega)]
        exact o3 i hi
    · have c := sR_marker1 (E := E) (J := mm_mx K M) hGM (show k < 4 by omega) (ed_nb hb)
      rw [show mm_mx K M 69 5 = nI (v_q v) from b3, mx_set (by decide), mx_set (by decide)] at c
      exact c
theorem p2_frame {E : mm_E} {v : ed_V} {X : mm_J} {G : mm_G} {M : mm_J} (hX : ed_CX v X G) (hM : ed_CM v M) (hI : ed_I v) {x y : Int32} : ed_P2 E qE_frame [.ref 0, .int x, .int y] qR_frame [.ref 69, .int x, .int y] v X G M 0 := by
  obtain ⟨hG, ⟨a1, a2, a3⟩, ⟨p1, p2, p3, p4⟩, hK, ⟨s1, s2⟩, ⟨t1, t2, t3, t4, t5⟩, hE, hN, hB⟩ := id hX
  obtain ⟨⟨b1, b2, b3⟩, ⟨o1, o2, o3⟩, hKm, ⟨u1, u2⟩, ⟨w1, w2, w3, w4, w5, w6, w7⟩, hEm, hNm, hBm⟩ := id hM
  obtain ⟨⟨⟨i1, i2⟩, iP1, iK1, iH1, ⟨j1, j2, j3⟩, iE1, iN1, iB1⟩, iC1⟩ := id hI
  replace a1 : X 2 1 = nI (v_n v) := a1
  replace a2 : ∀ i, i < v_n v → X 3 i = v_tx v i := a2
  replace a3 : X 1 3 = nI (v_q v) := a3
  replace p1 : X 4 4 = v_mk v := p1
  replace s1 : X 16 3 = nI (v_m v) := s1
  replace t1 : X 0 7 = nI (v_t v) := t1
  replace t2 : X 0 8 = v_l v := t2
  replace t3 : X 0 9 = nI (v_g v) := t3
  replace t4 : X 0 10 = nI (v_y v) := t4
  replace t5 : X 0 11 = nI (v_ud v) := t5
  replace b1 : M 69 3 = nI (v_n v) := b1
  replace b2 : ∀ i, i < v_n v → M 70 i = v_tx v i := b2
  replace b3 : M 69 5 = nI (v_q v) := b3
  replace o1 : M 69 6 = v_mk v := o1
  replace w1 : M 69 7 = nI (v_t v) := w1
  replace w2 : M 69 8 = v_l v := w2
  replace w3 : M 69 9 = nI (v_g v) := w3
  replace w4 : M 69 17 = nI (v_y v) := w4
  replace w5 : M 69 24 = nI (v_ud v) := w5
  replace w6 : M 69 15 = nI (v_ya v) := w6
  replace w7 : M 69 16 = nI (v_yl v) := w7
  replace u1 : M 69 23 = nI (v_m v) := u1
  replace i1 : v_n v ≤ 100 := i1
  replace i2 : v_q v ≤ v_n v := i2
  replace iP1 : iP (v_n v) (v_P v) := iP1
  replace j1 : 1 ≤ v_t v := j1
  replace j2 : v_t v ≤ 9 := j2
  replace j3 : v_g v ≤ 100 := j3
  have hE : xE (v_E v) X := hX.2.2.2.2.2.2.1
  have hEm : mE (v_E v) M := hM.2.2.2.2.2.1
  have iE1 : iE (v_E v) := hI.1.2.2.2.2.2.1
  obtain ⟨e1, e2, e3⟩ := id hE
  obtain ⟨m1, m2, m3⟩ := id hEm
  obtain ⟨y1, y2, y3⟩ := id iE1
  replace e1 : X 63 2 = nI (v_z v) := e1
  replace e2 : X 63 3 = nI (v_rc v) := e2
  replace m1 : M 69 31 = nI (v_z v) := m1
  replace m2 : M 69 32 = nI (v_rc v) := m2
  replace y1 : v_z v ≤ 12 := y1
  replace y2 : v_rc v < 2 := y2
  by_cases h1 : ¬ (nI 4 ≤ x ∧ x ≤ nI 20 ∧ nI 2 ≤ y ∧ y ≤ nI 6)
  · exact ⟨-1, v, ⟨_, _, sE_frame0 hG h1, ed_CF.rf hX⟩, ⟨_, hM, fun K GM hGM => sR_frame0 h1⟩, hI, Nat.le_refl _⟩
  · replace h1 := Classical.not_not.mp h1
    obtain ⟨k, hk1, hk2, rfl⟩ := kb_rng (x := x) (lo := 4) (hi := 20) (by decide) (by decide) (Int32.not_lt.mpr h1.1) (Int32.not_lt.mpr h1.2.1)
    obtain ⟨j, hj1, hj2, rfl⟩ := kb_rng (x := y) (lo := 2) (hi := 6) (by decide) (by decide) (Int32.not_lt.mpr h1.2.2.1) (Int32.not_lt.mpr h1.2.2.2)
    refine ⟨nI 0, (v.1, v.2.1, v.2.2.1, v.2.2.2.1, v.2.2.2.2.1, v.2.2.2.2.2.1, (k, j, 0), v.2.2.2.2.2.2.2), ⟨_, _, sE_frame1 hG hk1 hk2 hj1 hj2, ed_CX.gN (a := (k, j, 0)) hX (fun i q1 => by rw [mm_set_ne _ _ _ q1, mm_set_ne _ _ _ q1, mm_set_ne _ _ _ q1]) ⟨rfl, rfl, rfl⟩, fun a ha => by rw [mm_set_ne _ _ _ (by omega), mm_set_ne _ _ _ (by omega), mm_set_ne _ _ _ (by omega)]⟩, ⟨mm_set (mm_set (mm_set M 69 33 (nI k)) 69 34 (nI j)) 69 35 (nI 0), ed_CM.gN (a := (k, j, 0)) hM (fun a i q => by rw [mm_set_o (by omega), mm_set_o (by omega), mm_set_o (by omega)]) ⟨rfl, rfl, rfl⟩, fun K GM hGM => ?_⟩, ⟨⟨⟨i1, i2⟩, iP1, iK1, iH1, ⟨j1, j2, j3⟩, iE1, ⟨hk1, hk2, hj1, hj2, Nat.zero_le _⟩, iB1⟩, iC1⟩, Nat.le_refl _⟩
    have c := sR_frame1 (E := E) (G := GM) (J := mm_mx K M) hk1 hk2 hj1 hj2
    rw [mx_set (by decide), mx_set (by decide), mx_set (by decide)] at c
    exact c
theorem p2_character {E : mm_E} {v : ed_V} {X : mm_J} {G : mm_G} {M : mm_J} (hX : ed_CX v X G) (hM : ed_CM v M) (hI : ed_I v) {x : Int32} : ed_P2 E qE_character [.ref 0, .int x] qR_character [.ref 69, .int x] v X G M 0 := by
  obtain ⟨hG, ⟨a1, a2, a3⟩, ⟨p1, p2, p3, p4⟩, hK, ⟨s1, s2⟩, ⟨t1, t2, t3, t4, t5⟩, hE, hN, hB⟩ := id hX
  obtain ⟨⟨b1, b2, b3⟩, ⟨o1, o2, o3⟩, hKm, ⟨u1, u2⟩, ⟨w1, w2, w3, w4, w5, w6, w7⟩, hEm, hNm, hBm⟩ := id hM
  obtain ⟨⟨⟨i1, i2⟩, iP1, iK1, iH1, ⟨j1, j2, j3⟩, iE1, iN1, iB1⟩, iC1⟩ := id hI
  replace a1 : X 2 1 = nI (v_n v) := a1
  replace a2 : ∀ i, i < v_n v → X 3 i = v_tx v i := a2
  replace a3 : X 1 3 = nI (v_q v) := a3
  replace p1 : X 4 4 = v_mk v := p1
  replace s1 : X 16 3 = nI (v_m v) := s1
  replace t1 : X 0 7 = nI (v_t v) := t1
  replace t2 : X 0 8 = v_l v := t2
  replace t3 : X 0 9 = nI (v_g v) := t3
  replace t4 : X 0 10 = nI (v_y v) := t4
  replace t5 : X 0 11 = nI (v_ud v) := t5
  replace b1 : M 69 3 = nI (v_n v) := b1
  replace b2 : ∀ i, i < v_n v → M 70 i = v_tx v i := b2
  replace b3 : M 69 5 = nI (v_q v) := b3
  replace o1 : M 69 6 = v_mk v := o1
  replace w1 : M 69 7 = nI (v_t v) := w1
  replace w2 : M 69 8 = v_l v := w2
  replace w3 : M 69 9 = nI (v_g v) := w3
  replace w4 : M 69 17 = nI (v_y v) := w4
  replace w5 : M 69 24 = nI (v_ud v) := w5
  replace w6 : M 69 15 = nI (v_ya v) := w6
  replace w7 : M 69 16 = nI (v_yl v) := w7
  replace u1 : M 69 23 = nI (v_m v) := u1
  replace i1 : v_n v ≤ 100 := i1
  replace i2 : v_q v ≤ v_n v := i2
  replace iP1 : iP (v_n v) (v_P v) := iP1
  replace j1 : 1 ≤ v_t v := j1
  replace j2 : v_t v ≤ 9 := j2
  replace j3 : v_g v ≤ 100 := j3
  have hE : xE (v_E v) X := hX.2.2.2.2.2.2.1
  have hEm : mE (v_E v) M := hM.2.2.2.2.2.1
  have iE1 : iE (v_E v) := hI.1.2.2.2.2.2.1
  obtain ⟨e1, e2, e3⟩ := id hE
  obtain ⟨m1, m2, m3⟩ := id hEm
  obtain ⟨y1, y2, y3⟩ := id iE1
  replace e1 : X 63 2 = nI (v_z v) := e1
  replace e2 : X 63 3 = nI (v_rc v) := e2
  replace m1 : M 69 31 = nI (v_z v) := m1
  replace m2 : M 69 32 = nI (v_rc v) := m2
  replace y1 : v_z v ≤ 12 := y1
  replace y2 : v_rc v < 2 := y2
  by_cases h1 : x < 0 ∨ nI (v_n v) ≤ x
  · exact ⟨-1, v, ⟨_, _, sE_character0 hG a1 i1 h1, ed_CF.rf hX⟩, ⟨_, hM, fun K GM hGM => sR_character0 (J := mm_mx K M) b1 i1 h1⟩, hI, Nat.le_refl _⟩
  · obtain ⟨k, hk2, rfl⟩ := nI_of (x := x) (fun q => h1 (Or.inl q))
    have hk : k < v_n v := by
      rcases Nat.lt_or_ge k (v_n v) with q | q
      · exact q
      · exact absurd (Or.inr (nI_le q (by omega))) h1
    refine ⟨v_tx v k, v, ⟨_, _, ?_, ed_CF.rf hX⟩, ⟨_, hM, fun K GM hGM => ?_⟩, hI, Nat.le_refl _⟩
    · have c := sE_character1 (E := E) hG a1 i1 hk
      rw [a2 k hk] at c
      exact c
    · have c := sR_character1 (E := E) (J := mm_mx K M) hGM b1 i1 hk
      rw [show mm_mx K M 70 k = v_tx v k from b2 k hk] at c
      exact c
theorem p2_markerAt {E : mm_E} {v : ed_V} {X : mm_J} {G : mm_G} {M : mm_J} (hX : ed_CX v X G) (hM : ed_CM v M) (hI : ed_I v) {x : Int32} : ed_P2 E qE_markerAt [.ref 0, .int x] qR_markerAt [.ref 69, .int x] v X G M 0 := by
  obtain ⟨hG, ⟨a1, a2, a3⟩, ⟨p1, p2, p3, p4⟩, hK, ⟨s1, s2⟩, ⟨t1, t2, t3, t4, t5⟩, hE, hN, hB⟩ := id hX
  obtain ⟨⟨b1, b2, b3⟩, ⟨o1, o2, o3⟩, hKm, ⟨u1, u2⟩, ⟨w1, w2, w3, w4, w5, w6, w7⟩, hEm, hNm, hBm⟩ := id hM
  obtain ⟨⟨⟨i1, i2⟩, iP1, iK1, iH1, ⟨j1, j2, j3⟩, iE1, iN1, iB1⟩, iC1⟩ := id hI
  replace a1 : X 2 1 = nI (v_n v) := a1
  replace a2 : ∀ i, i < v_n v → X 3 i = v_tx v i := a2
  replace a3 : X 1 3 = nI (v_q v) := a3
  replace p1 : X 4 4 = v_mk v := p1
  replace s1 : X 16 3 = nI (v_m v) := s1
  replace t1 : X 0 7 = nI (v_t v) := t1
  replace t2 : X 0 8 = v_l v := t2
  replace t3 : X 0 9 = nI (v_g v) := t3
  replace t4 : X 0 10 = nI (v_y v) := t4
  replace t5 : X 0 11 = nI (v_ud v) := t5
  replace b1 : M 69 3 = nI (v_n v) := b1
  replace b2 : ∀ i, i < v_n v → M 70 i = v_tx v i := b2
  replace b3 : M 69 5 = nI (v_q v) := b3
  replace o1 : M 69 6 = v_mk v := o1
  replace w1 : M 69 7 = nI (v_t v) := w1
  replace w2 : M 69 8 = v_l v := w2
  replace w3 : M 69 9 = nI (v_g v) := w3
  replace w4 : M 69 17 = nI (v_y v) := w4
  replace w5 : M 69 24 = nI (v_ud v) := w5
  replace w6 : M 69 15 = nI (v_ya v) := w6
  replace w7 : M 69 16 = nI (v_yl v) := w7
  replace u1 : M 69 23 = nI (v_m v) := u1
  replace i1 : v_n v ≤ 100 := i1
  replace i2 : v_q v ≤ v_n v := i2
  replace iP1 : iP (v_n v) (v_P v) := iP1
  replace j1 : 1 ≤ v_t v := j1
  replace j2 : v_t v ≤ 9 := j2
  replace j3 : v_g v ≤ 100 := j3
  have hE : xE (v_E v) X := hX.2.2.2.2.2.2.1
  have hEm : mE (v_E v) M := hM.2.2.2.2.2.1
  have iE1 : iE (v_E v) := hI.1.2.2.2.2.2.1
  obtain ⟨e1, e2, e3⟩ := id hE
  obtain ⟨m1, m2, m3⟩ := id hEm
  obtain ⟨y1, y2, y3⟩ := id iE1
  replace e1 : X 63 2 = nI (v_z v) := e1
  replace e2 : X 63 3 = nI (v_rc v) := e2
  replace m1 : M 69 31 = nI (v_z v) := m1
  replace m2 : M 69 32 = nI (v_rc v) := m2
  replace y1 : v_z v ≤ 12 := y1
  replace y2 : v_rc v < 2 := y2
  by_cases h1 : x < 0 ∨ nI 3 < x
  · exact ⟨-1, v, ⟨_, _, sE_markerAt0 (h1.imp id (fun q => (by rw [Int32.le_iff_toInt_le]; rw [Int32.lt_iff_toInt_lt] at q; rw [nI_toInt (by decide)] at q ⊢; omega))), ed_CF.rf hX⟩, ⟨_, hM, fun K GM hGM => sR_markerAt0 h1⟩, hI, Nat.le_refl _⟩
  · obtain ⟨k, -, hk, rfl⟩ := (kb_rng (x := x) (lo := 0) (hi := 3) (by decide) (by decide) (fun q => h1 (Or.inl q)) (fun q => h1 (Or.inr q)))
    refine ⟨v_mr v k, v, ⟨_, _, ?_, ed_CF.rf hX⟩, ⟨_, hM, fun K GM hGM => ?_⟩, hI, Nat.le_refl _⟩
    · have c := sE_markerAt1 (E := E) (J := X) hG (show k < 4 by omega)
      rw [p2 k (by omega)] at c
      exact c
    · have c := sR_markerAt1 (E := E) (J := mm_mx K M) hGM (show k < 4 by omega)
      rw [show mm_mx K M 73 k = v_mr v k from o2 k (by omega)] at c
      exact c
theorem p2_killed {E : mm_E} {v : ed_V} {X : mm_J} {G : mm_G} {M : mm_J} (hX : ed_CX v X G) (hM : ed_CM v M) (hI : ed_I v) {x y : Int32} : ed_P2 E qE_killed [.ref 0, .int x, .int y] qR_killed [.ref 69, .int x, .int y] v X G M 0 := by
  obtain ⟨hG, ⟨a1, a2, a3⟩, ⟨p1, p2, p3, p4⟩, hK, ⟨s1, s2⟩, ⟨t1, t2, t3, t4, t5⟩, hE, hN, hB⟩ := id hX
  obtain ⟨⟨b1, b2, b3⟩, ⟨o1, o2, o3⟩, hKm, ⟨u1, u2⟩, ⟨w1, w2, w3, w4, w5, w6, w7⟩, hEm, hNm, hBm⟩ := id hM
  obtain ⟨⟨⟨i1, i2⟩, iP1, iK1, iH1, ⟨j1, j2, j3⟩, iE1, iN1, iB1⟩, iC1⟩ := id hI
  replace a1 : X 2 1 = nI (v_n v) := a1
  replace a2 : ∀ i, i < v_n v → X 3 i = v_tx v i := a2
  replace a3 : X 1 3 = nI (v_q v) := a3
  replace p1 : X 4 4 = v_mk v := p1
  replace s1 : X 16 3 = nI (v_m v) := s1
  replace t1 : X 0 7 = nI (v_t v) := t1
  replace t2 : X 0 8 = v_l v := t2
  replace t3 : X 0 9 = nI (v_g v) := t3
  replace t4 : X 0 10 = nI (v_y v) := t4
  replace t5 : X 0 11 = nI (v_ud v) := t5
  replace b1 : M 69 3 = nI (v_n v) := b1
  replace b2 : ∀ i, i < v_n v → M 70 i = v_tx v i := b2
  replace b3 : M 69 5 = nI (v_q v) := b3
  replace o1 : M 69 6 = v_mk v := o1
  replace w1 : M 69 7 = nI (v_t v) := w1
  replace w2 : M 69 8 = v_l v := w2
  replace w3 : M 69 9 = nI (v_g v) := w3
  replace w4 : M 69 17 = nI (v_y v) := w4
  replace w5 : M 69 24 = nI (v_ud v) := w5
  replace w6 : M 69 15 = nI (v_ya v) := w6
  replace w7 : M 69 16 = nI (v_yl v) := w7
  replace u1 : M 69 23 = nI (v_m v) := u1
  replace i1 : v_n v ≤ 100 := i1
  replace i2 : v_q v ≤ v_n v := i2
  replace iP1 : iP (v_n v) (v_P v) := iP1
  replace j1 : 1 ≤ v_t v := j1
  replace j2 : v_t v ≤ 9 := j2
  replace j3 : v_g v ≤ 100 := j3
  have hE : xE (v_E v) X := hX.2.2.2.2.2.2.1
  have hEm : mE (v_E v) M := hM.2.2.2.2.2.1
  have iE1 : iE (v_E v) := hI.1.2.2.2.2.2.1
  obtain ⟨e1, e2, e3⟩ := id hE
  obtain ⟨m1, m2, m3⟩ := id hEm
  obtain ⟨y1, y2, y3⟩ := id iE1
  replace e1 : X 63 2 = nI (v_z v) := e1
  replace e2 : X 63 3 = nI (v_rc v) := e2
  replace m1 : M 69 31 = nI (v_z v) := m1
  replace m2 : M 69 32 = nI (v_rc v) := m2
  replace y1 : v_z v ≤ 12 := y1
  replace y2 : v_rc v < 2 := y2
  obtain ⟨c1, r0, r1, r2, r3, k0, k1, k2, k3, hd⟩ := xK.rows hK
  obtain ⟨d1, d2⟩ := id hKm
  replace c1 : X 6 1 = nI (v_kc v) := c1
  replace d1 : M 69 14 = nI (v_kc v) := d1
  replace d2 : ∀ i, i < 4 → M 76 i = nI (v_kl v i) ∧ ∀ j, j < v_kl v i → M 75 (i * 100 + j) = v_kt v i j := d2
  replace k0 : ed_kr X G 0 r0 (v_kl v 0) (v_kt v 0) := k0
  replace k1 : ed_kr X G 1 r1 (v_kl v 1) (v_kt v 1) := k1
  replace k2 : ed_kr X G 2 r2 (v_kl v 2) (v_kt v 2) := k2
  replace k3 : ed_kr X G 3 r3 (v_kl v 3) (v_kt v 3) := k3
  have q1 : v_kc v ≤ 4 := iK1.1
  have q2 : ∀ i, i < 4 → v_kl v i ≤ 100 := iK1.2
  by_cases h1 : x < 0 ∨ nI (v_kc v) ≤ x ∨ y < 0
  · exact ⟨-1, v, ⟨_, _, sE_killed0 hG c1 q1 h1, ed_CF.rf hX⟩, ⟨_, hM, fun K GM hGM => sR_killed0 (J := mm_mx K M) d1 q1 h1⟩, hI, Nat.le_refl _⟩
  · obtain ⟨k, hk2, rfl⟩ := nI_of (x := x) (fun q => h1 (Or.inl q))
    obtain ⟨j, hj2, rfl⟩ := nI_of (x := y) (fun q => h1 (Or.inr (Or.inr q)))
    have hk : k < v_kc v := by
      rcases Nat.lt_or_ge k (v_kc v) with q | q
      · exact q
      · exact absurd (Or.inr (Or.inl (nI_le q (by omega)))) h1
    obtain ⟨r, g1, g2, g3, g4⟩ := xK.row hK (i := k) (by omega)
    obtain ⟨f1, f2⟩ := d2 k (by omega)
    have hl := q2 k (by omega)
    by_cases hj : j < v_kl v k
    · refine ⟨v_kt v k j, v, ⟨_, _, ?_, ed_CF.rf hX⟩, ⟨_, hM, fun K GM hGM => ?_⟩, hI, Nat.le_refl _⟩
      · have c := sE_killed1 (E := E) hG c1 q1 hk g1 g2.sh.1 g3 hl hj
        rw [g4 j hj] at c
        exact c
      · have c := sR_killed1 (E := E) (J := mm_mx K M) hGM d1 q1 hk f1 hl hj
        rw [show mm_mx K M 75 (k * 100 + j) = v_kt v k j from f2 j hj] at c
        exact c
    · exact ⟨nI 0, v, ⟨_, _, sE_killed2 hG c1 q1 hk g1 g2.sh.1 g3 hl (Nat.le_of_not_lt hj) hj2, ed_CF.rf hX⟩, ⟨_, hM, fun K GM hGM => sR_killed2 (J := mm_mx K M) hGM d1 q1 hk f1 hl (Nat.le_of_not_lt hj) hj2⟩, hI, Nat.le_refl _⟩
theorem p2_cell {E : mm_E} {v : ed_V} {X : mm_J} {G : mm_G} {M : mm_J} (hX : ed_CX v X G) (hM : ed_CM v M) (hI : ed_I v) {x y : Int32} : ed_P2 E qE_cell [.ref 0, .int x, .int y] qR_cell [.ref 69, .int x, .int y] v X G M 0 := by
  obtain ⟨hG, ⟨a1, a2, a3⟩, ⟨p1, p2, p3, p4⟩, hK, ⟨s1, s2⟩, ⟨t1, t2, t3, t4, t5⟩, hE, hN, hB⟩ := id hX
  obtain ⟨⟨b1, b2, b3⟩, ⟨o1, o2, o3⟩, hKm, ⟨u1, u2⟩, ⟨w1, w2, w3, w4, w5, w6, w7⟩, hEm, hNm, hBm⟩ := id hM
  obtain ⟨⟨⟨i1, i2⟩, iP1, iK1, iH1, ⟨j1, j2, j3⟩, iE1, iN1, iB1⟩, iC1⟩ := id hI
  replace a1 : X 2 1 = nI (v_n v) := a1
  replace a2 : ∀ i, i < v_n v → X 3 i = v_tx v i := a2
  replace a3 : X 1 3 = nI (v_q v) := a3
  replace p1 : X 4 4 = v_mk v := p1
  replace s1 : X 16 3 = nI (v_m v) := s1
  replace t1 : X 0 7 = nI (v_t v) := t1
  replace t2 : X 0 8 = v_l v := t2
  replace t3 : X 0 9 = nI (v_g v) := t3
  replace t4 : X 0 10 = nI (v_y v) := t4
  replace t5 : X 0 11 = nI (v_ud v) := t5
  replace b1 : M 69 3 = nI (v_n v) := b1
  replace b2 : ∀ i, i < v_n v → M 70 i = v_tx v i := b2
  replace b3 : M 69 5 = nI (v_q v) := b3
  replace o1 : M 69 6 = v_mk v := o1
  replace w1 : M 69 7 = nI (v_t v) := w1
  replace w2 : M 69 8 = v_l v := w2
  replace w3 : M 69 9 = nI (v_g v) := w3
  replace w4 : M 69 17 = nI (v_y v) := w4
  replace w5 : M 69 24 = nI (v_ud v) := w5
  replace w6 : M 69 15 = nI (v_ya v) := w6
  replace w7 : M 69 16 = nI (v_yl v) := w7
  replace u1 : M 69 23 = nI (v_m v) := u1
  replace i1 : v_n v ≤ 100 := i1
  replace i2 : v_q v ≤ v_n v := i2
  replace iP1 : iP (v_n v) (v_P v) := iP1
  replace j1 : 1 ≤ v_t v := j1
  replace j2 : v_t v ≤ 9 := j2
  replace j3 : v_g v ≤ 100 := j3
  have hE : xE (v_E v) X := hX.2.2.2.2.2.2.1
  have hEm : mE (v_E v) M := hM.2.2.2.2.2.1
  have iE1 : iE (v_E v) := hI.1.2.2.2.2.2.1
  obtain ⟨e1, e2, e3⟩ := id hE
  obtain ⟨m1, m2, m3⟩ := id hEm
  obtain ⟨y1, y2, y3⟩ := id iE1
  replace e1 : X 63 2 = nI (v_z v) := e1
  replace e2 : X 63 3 = nI (v_rc v) := e2
  replace m1 : M 69 31 = nI (v_z v) := m1
  replace m2 : M 69 32 = nI (v_rc v) := m2
  replace y1 : v_z v ≤ 12 := y1
  replace y2 : v_rc v < 2 := y2
  obtain ⟨n1, n2, n3⟩ := id hN
  obtain ⟨r1, r2, r3⟩ := id hNm
  obtain ⟨z1, z2, z3, z4, z5⟩ := id iN1
  replace n1 : X 66 0 = nI (v_c v) := n1
  replace n2 : X 66 1 = nI (v_w v) := n2
  replace n3 : X 66 2 = nI (v_f v) := n3
  replace r1 : M 69 33 = nI (v_c v) := r1
  replace r2 : M 69 34 = nI (v_w v) := r2
  replace r3 : M 69 35 = nI (v_f v) := r3
  replace z1 : 4 ≤ v_c v := z1
  replace z2 : v_c v ≤ 20 := z2
  replace z3 : 2 ≤ v_w v := z3
  replace z4 : v_w v ≤ 6 := z4
  replace z5 : v_f v ≤ 200 := z5
  have hrq := ed_rc_le (v_tx v) (v_c v) (v_q v)
  have exq : ed_rc (X 3) (v_c v) (v_q v) = ed_rc (v_tx v) (v_c v) (v_q v) := ed_eq.rc a2 _ i2
  have emq : ed_rc (M 70) (v_c v) (v_q v) = ed_rc (v_tx v) (v_c v) (v_q v) := ed_eq.rc b2 _ i2
  by_cases h1 : x < 0 ∨ nI (v_w v) ≤ x ∨ y < 0 ∨ nI (v_c v) ≤ y
  · exact ⟨-1, v, ⟨_, _, sE_cell0 hG a1 i1 i2 n1 z2 a3 n3 z5 n2 z4 h1, ed_CF.rf hX⟩, ⟨_, hM, fun K GM hGM => sR_cell0 (J := mm_mx K M) r1 z2 r2 z4 h1⟩, hI, Nat.le_refl _⟩
  · obtain ⟨k, hk2, rfl⟩ := nI_of (x := x) (fun q => h1 (Or.inl q))
    obtain ⟨j, hj2, rfl⟩ := nI_of (x := y) (fun q => h1 (Or.inr (Or.inr (Or.inl q))))
    have hk : k < v_w v := by
      rcases Nat.lt_or_ge k (v_w v) with q | q
      · exact q
      · exact absurd (Or.inr (Or.inl (nI_le q (by omega)))) h1
    have hj : j < v_c v := by
      rcases Nat.lt_or_ge j (v_c v) with q | q
      · exact q
      · exact absurd (Or.inr (Or.inr (Or.inr (nI_le q (by omega))))) h1
    refine ⟨ed_cb (v_tx v) (v_c v) ((max (min (v_f v) (ed_rc (v_tx v) (v_c v) (v_q v)).1) ((ed_rc (v_tx v) (v_c v) (v_q v)).1 + 1 - v_w v)) + k) j (v_n v) 0, (v.1, v.2.1, v.2.2.1, v.2.2.2.1, v.2.2.2.2.1, v.2.2.2.2.2.1, (v.2.2.2.2.2.2.1.1, v.2.2.2.2.2.2.1.2.1, (max (min (v_f v) (ed_rc (v_tx v) (v_c v) (v_q v)).1) ((ed_rc (v_tx v) (v_c v) (v_q v)).1 + 1 - v_w v))), v.2.2.2.2.2.2.2), ⟨_, _, ?_, ed_CX.gN (X' := mm_set X 66 2 (nI (max (min (v_f v) (ed_rc (v_tx v) (v_c v) (v_q v)).1) ((ed_rc (v_tx v) (v_c v) (v_q v)).1 + 1 - v_w v)))) (a := (v_c v, v_w v, (max (min (v_f v) (ed_rc (v_tx v) (v_c v) (v_q v)).1) ((ed_rc (v_tx v) (v_c v) (v_q v)).1 + 1 - v_w v)))) hX (fun i q1 => mm_set_ne _ _ _ q1) ⟨n1, n2, rfl⟩, fun a ha => mm_set_ne _ _ _ (by omega)⟩, ⟨mm_set M 69 35 (nI (max (min (v_f v) (ed_rc (v_tx v) (v_c v) (v_q v)).1) ((ed_rc (v_tx v) (v_c v) (v_q v)).1 + 1 - v_w v))), ed_CM.gN (a := (v_c v, v_w v, (max (min (v_f v) (ed_rc (v_tx v) (v_c v) (v_q v)).1) ((ed_rc (v_tx v) (v_c v) (v_q v)).1 + 1 - v_w v)))) hM (fun a i q => mm_set_o (by omega)) ⟨r1, r2, rfl⟩, fun K GM hGM => ?_⟩, ⟨⟨⟨i1, i2⟩, iP1, iK1, iH1, ⟨j1, j2, j3⟩, iE1, ⟨z1, z2, z3, z4, (show (max (min (v_f v) (ed_rc (v_tx v) (v_c v) (v_q v)).1) ((ed_rc (v_tx v) (v_c v) (v_q v)).1 + 1 - v_w v)) ≤ 200 by omega)⟩, iB1⟩, iC1⟩, Nat.le_refl _⟩
    · have c := sE_cell1 (E := E) hG a1 i1 i2 n1 z2 a3 n3 z5 n2 z4 hk hj
      rw [exq, ed_eq.ca a2 _ _ (by omega), ed_ca_cb] at c
      exact c
    · have c := sR_cell1 (E := E) (J := mm_mx K M) hGM b1 i1 r1 z1 z2 b3 i2 r3 z5 r2 z3 z4 hk hj
      rw [mx_r (show 69 ≤ 70 by decide), emq, ed_eq.cb b2 _ _ (by omega), mx_set (by decide)] at c
      exact c
theorem p2_info {E : mm_E} {v : ed_V} {X : mm_J} {G : mm_G} {M : mm_J} (hX : ed_CX v X G) (hM : ed_CM v M) (hI : ed_I v) {x : Int32} : ed_P2 E qE_info [.ref 0, .int x] qR_info [.ref 69, .int x] v X G M 0 := by
  obtain ⟨hG, ⟨a1, a2, a3⟩, ⟨p1, p2, p3, p4⟩, hK, ⟨s1, s2⟩, ⟨t1, t2, t3, t4, t5⟩, hE, hN, hB⟩ := id hX
  obtain ⟨⟨b1, b2, b3⟩, ⟨o1, o2, o3⟩, hKm, ⟨u1, u2⟩, ⟨w1, w2, w3, w4, w5, w6, w7⟩, hEm, hNm, hBm⟩ := id hM
  obtain ⟨⟨⟨i1, i2⟩, iP1, iK1, iH1, ⟨j1, j2, j3⟩, iE1, iN1, iB1⟩, iC1⟩ := id hI
  replace a1 : X 2 1 = nI (v_n v) := a1
  replace a2 : ∀ i, i < v_n v → X 3 i = v_tx v i := a2
  replace a3 : X 1 3 = nI (v_q v) := a3
  replace p1 : X 4 4 = v_mk v := p1
  replace s1 : X 16 3 = nI (v_m v) := s1
  replace t1 : X 0 7 = nI (v_t v) := t1
  replace t2 : X 0 8 = v_l v := t2
  replace t3 : X 0 9 = nI (v_g v) := t3
  replace t4 : X 0 10 = nI (v_y v) := t4
  replace t5 : X 0 11 = nI (v_ud v) := t5
  replace b1 : M 69 3 = nI (v_n v) := b1
  replace b2 : ∀ i, i < v_n v → M 70 i = v_tx v i := b2
  replace b3 : M 69 5 = nI (v_q v) := b3
  replace o1 : M 69 6 = v_mk v := o1
  replace w1 : M 69 7 = nI (v_t v) := w1
  replace w2 : M 69 8 = v_l v := w2
  replace w3 : M 69 9 = nI (v_g v) := w3
  replace w4 : M 69 17 = nI (v_y v) := w4
  replace w5 : M 69 24 = nI (v_ud v) := w5
  replace w6 : M 69 15 = nI (v_ya v) := w6
  replace w7 : M 69 16 = nI (v_yl v) := w7
  replace u1 : M 69 23 = nI (v_m v) := u1
  replace i1 : v_n v ≤ 100 := i1
  replace i2 : v_q v ≤ v_n v := i2
  replace iP1 : iP (v_n v) (v_P v) := iP1
  replace j1 : 1 ≤ v_t v := j1
  replace j2 : v_t v ≤ 9 := j2
  replace j3 : v_g v ≤ 100 := j3
  have hE : xE (v_E v) X := hX.2.2.2.2.2.2.1
  have hEm : mE (v_E v) M := hM.2.2.2.2.2.1
  have iE1 : iE (v_E v) := hI.1.2.2.2.2.2.1
  obtain ⟨e1, e2, e3⟩ := id hE
  obtain ⟨m1, m2, m3⟩ := id hEm
  obtain ⟨y1, y2, y3⟩ := id iE1
  replace e1 : X 63 2 = nI (v_z v) := e1
  replace e2 : X 63 3 = nI (v_rc v) := e2
  replace m1 : M 69 31 = nI (v_z v) := m1
  replace m2 : M 69 32 = nI (v_rc v) := m2
  replace y1 : v_z v ≤ 12 := y1
  replace y2 : v_rc v < 2 := y2
  obtain ⟨n1, n2, n3⟩ := id hN
  obtain ⟨r1, r2, r3⟩ := id hNm
  obtain ⟨z1, z2, z3, z4, z5⟩ := id iN1
  replace n1 : X 66 0 = nI (v_c v) := n1
  replace n2 : X 66 1 = nI (v_w v) := n2
  replace n3 : X 66 2 = nI (v_f v) := n3
  replace r1 : M 69 33 = nI (v_c v) := r1
  replace r2 : M 69 34 = nI (v_w v) := r2
  replace r3 : M 69 35 = nI (v_f v) := r3
  replace z1 : 4 ≤ v_c v := z1
  replace z2 : v_c v ≤ 20 := z2
  replace z3 : 2 ≤ v_w v := z3
  replace z4 : v_w v ≤ 6 := z4
  replace z5 : v_f v ≤ 200 := z5
  have hrq := ed_rc_le (v_tx v) (v_c v) (v_q v)
  have exq : ed_rc (X 3) (v_c v) (v_q v) = ed_rc (v_tx v) (v_c v) (v_q v) := ed_eq.rc a2 _ i2
  have emq : ed_rc (M 70) (v_c v) (v_q v) = ed_rc (v_tx v) (v_c v) (v_q v) := ed_eq.rc b2 _ i2
  by_cases h1 : x < 0 ∨ nI 13 < x
  · exact ⟨-1, v, ⟨_, _, sE_infoX (h1.imp (fun q => (by rw [Int32.lt_iff_toInt_lt] at q; exact q)) (fun q => (by rw [Int32.lt_iff_toInt_lt, nI_toInt (by decide)] at q; exact q))), ed_CF.rf hX⟩, ⟨_, hM, fun K GM hGM => sR_infoX h1⟩, hI, Nat.le_refl _⟩
  obtain ⟨k, -, hk, rfl⟩ := kb_rng (x := x) (lo := 0) (hi := 13) (by decide) (by decide) (fun q => h1 (Or.inl q)) (fun q => h1 (Or.inr q))
  have hB1 : X 60 2 = nI (v_B v).1.length := hB.1
  have hB3 : X 60 3 = nI (v_pd v) := hB.2.2
  have hD1 : M 69 27 = nI (v_B v).1.length := hBm.1
  have hD3 : M 69 29 = nI (ed_pn (v_pd v)) := hBm.2.2.1
  have hkc : X 6 1 = nI (v_kc v) := hK.1
  have hkm : M 69 14 = nI (v_kc v) := hKm.1
  have hvd : ed_vd (v_pd v) := iB1.2.2.2.2
  have hexn : ed_rc (X 3) (v_c v) (v_n v) = ed_rc (v_tx v) (v_c v) (v_n v) := ed_eq.rc a2 _ (Nat.le_refl _)
  have hemn : ed_rc (M 70) (v_c v) (v_n v) = ed_rc (v_tx v) (v_c v) (v_n v) := ed_eq.rc b2 _ (Nat.le_refl _)
  have h5 : (if ed_sp (v_pd v) = 4913 then 0 else if ed_sp (v_pd v) = 289 then 1 else 2) = ed_pn (v_pd v) ∧ v_pd v < 2 ^ 30 := by
    generalize v_pd v = pd at hvd
    rcases hvd with rfl | ⟨x, hx, rfl⟩ | ⟨x, y, hx, hy, rfl⟩
    · exact ⟨rfl, by decide⟩
    · refine ⟨?_, by omega⟩
      rw [show ed_sp ((x + 1) * 289) = 289 from by unfold ed_sp; rw [if_neg (by omega), if_pos (by omega)], show ed_pn ((x + 1) * 289) = 1 from by unfold ed_pn; rw [if_neg (by omega), if_pos (by omega)]]
      rfl
    · refine ⟨?_, by omega⟩
      rw [show ed_sp ((x + 1) * 289 + (y + 1) * 17) = 17 from by unfold ed_sp; rw [if_neg (by omega), if_neg (by omega), if_pos (by omega)], show ed_pn ((x + 1) * 289 + (y + 1) * 17) = 2 from by unfold ed_pn; rw [if_neg (by omega), if_neg (by omega)]]
      rfl
  obtain rfl | rfl | rfl | rfl | rfl | rfl | rfl | rfl | rfl | rfl | rfl | rfl | rfl | rfl : k = 0 ∨ k = 1 ∨ k = 2 ∨ k = 3 ∨ k = 4 ∨ k = 5 ∨ k = 6 ∨ k = 7 ∨ k = 8 ∨ k = 9 ∨ k = 10 ∨ k = 11 ∨ k = 12 ∨ k = 13 := by omega
  · refine ⟨nI (v_n v), v, ⟨_, _, ?_, ed_CF.rf hX⟩, ⟨_, hM, fun K GM hGM => ?_⟩, hI, Nat.le_refl _⟩
    · have c := sE_info0 (E := E) (J := X) hG
      rw [a1] at c
      exact c
    · have c := sR_info0 (E := E) (G := GM) (J := mm_mx K M)
      rw [show mm_mx K M 69 3 = nI (v_n v) from b1] at c
      exact c
  · refine ⟨nI (v_q v), v, ⟨_, _, ?_, ed_CF.rf hX⟩, ⟨_, hM, fun K GM hGM => ?_⟩, hI, Nat.le_refl _⟩
    · have c := sE_info1 (E := E) (J := X) hG
      rw [a3] at c
      exact c
    · have c := sR_info1 (E := E) (G := GM) (J := mm_mx K M)
      rw [show mm_mx K M 69 5 = nI (v_q v) from b3] at c
      exact c
  · refine ⟨v_mk v, v, ⟨_, _, ?_, ed_CF.rf hX⟩, ⟨_, hM, fun K GM hGM => ?_⟩, hI, Nat.le_refl _⟩
    · have c := sE_info2 (E := E) (J := X) hG
      rw [p1] at c
      exact c
    · have c := sR_info2 (E := E) (G := GM) (J := mm_mx K M)
      rw [show mm_mx K M 69 6 = v_mk v from o1] at c
      exact c
  · refine ⟨nI (v_kc v), v, ⟨_, _, ?_, ed_CF.rf hX⟩, ⟨_, hM, fun K GM hGM => ?_⟩, hI, Nat.le_refl _⟩
    · have c := sE_info3 (E := E) (J := X) hG
      rw [hkc] at c
      exact c
    · have c := sR_info3 (E := E) (G := GM) (J := mm_mx K M)
      rw [show mm_mx K M 69 14 = nI (v_kc v) from hkm] at c
      exact c
  · refine ⟨nI (v_m v), v, ⟨_, _, ?_, ed_CF.rf hX⟩, ⟨_, hM, fun K GM hGM => ?_⟩, hI, Nat.le_refl _⟩
    · have c := sE_info4 (E := E) (J := X) hG
      rw [s1] at c
      exact c
    · have c := sR_info4 (E := E) (G := GM) (J := mm_mx K M)
      rw [show mm_mx K M 69 23 = nI (v_m v) from u1] at c
      exact c
  · refine ⟨nI (ed_pn (v_pd v)), v, ⟨_, _, ?_, ed_CF.rf hX⟩, ⟨_, hM, fun K GM hGM => ?_⟩, hI, Nat.le_refl _⟩
    · have c := sE_info5 (E := E) hG h5.2 hB3
      rw [h5.1] at c
      exact c
    · have c := sR_info5 (E := E) (G := GM) (J := mm_mx K M)
      rw [show mm_mx K M 69 29 = nI (ed_pn (v_pd v)) from hD3] at c
      exact c
  · refine ⟨nI (v_z v), v, ⟨_, _, ?_, ed_CF.rf hX⟩, ⟨_, hM, fun K GM hGM => ?_⟩, hI, Nat.le_refl _⟩
    · have c := sE_info6 (E := E) (J := X) hG
      rw [e1] at c
      exact c
    · have c := sR_info6 (E := E) (G := GM) (J := mm_mx K M)
      rw [show mm_mx K M 69 31 = nI (v_z v) from m1] at c
      exact c
  · exact ⟨nI (v_rc v), v, ⟨_, _, sE_info7 hG e2 y2, ed_CF.rf hX⟩, ⟨_, hM, fun K GM hGM => sR_info7 (J := mm_mx K M) m2 y2⟩, hI, Nat.le_refl _⟩
  · refine ⟨nI (v_B v).1.length, v, ⟨_, _, ?_, ed_CF.rf hX⟩, ⟨_, hM, fun K GM hGM => ?_⟩, hI, Nat.le_refl _⟩
    · have c := sE_info8 (E := E) (J := X) hG
      rw [hB1] at c
      exact c
    · have c := sR_info8 (E := E) (G := GM) (J := mm_mx K M)
      rw [show mm_mx K M 69 27 = nI (v_B v).1.length from hD1] at c
      exact c
  · refine ⟨nI ((ed_rc (v_tx v) (v_c v) (v_n v)).1 + 1), v, ⟨_, _, ?_, ed_CF.rf hX⟩, ⟨_, hM, fun K GM hGM => ?_⟩, hI, Nat.le_refl _⟩
    · have c := sE_info9 (E := E) hG a1 i1 n1 z2
      rw [hexn] at c
      exact c
    · have c := sR_info9 (E := E) (J := mm_mx K M) hGM b1 i1 r1 z1 z2
      rw [mx_r (show 69 ≤ 70 by decide), hemn] at c
      exact c
  · refine ⟨nI (max (min (v_f v) (ed_rc (v_tx v) (v_c v) (v_q v)).1) ((ed_rc (v_tx v) (v_c v) (v_q v)).1 + 1 - v_w v)), (v.1, v.2.1, v.2.2.1, v.2.2.2.1, v.2.2.2.2.1, v.2.2.2.2.2.1, (v.2.2.2.2.2.2.1.1, v.2.2.2.2.2.2.1.2.1, (max (min (v_f v) (ed_rc (v_tx v) (v_c v) (v_q v)).1) ((ed_rc (v_tx v) (v_c v) (v_q v)).1 + 1 - v_w v))), v.2.2.2.2.2.2.2), ⟨_, _, ?_, ed_CX.gN (X' := mm_set X 66 2 (nI (max (min (v_f v) (ed_rc (v_tx v) (v_c v) (v_q v)).1) ((ed_rc (v_tx v) (v_c v) (v_q v)).1 + 1 - v_w v)))) (a := (v_c v, v_w v, (max (min (v_f v) (ed_rc (v_tx v) (v_c v) (v_q v)).1) ((ed_rc (v_tx v) (v_c v) (v_q v)).1 + 1 - v_w v)))) hX (fun i q1 => mm_set_ne _ _ _ q1) ⟨n1, n2, rfl⟩, fun a ha => mm_set_ne _ _ _ (by omega)⟩, ⟨mm_set M 69 35 (nI (max (min (v_f v) (ed_rc (v_tx v) (v_c v) (v_q v)).1) ((ed_rc (v_tx v) (v_c v) (v_q v)).1 + 1 - v_w v))), ed_CM.gN (a := (v_c v, v_w v, (max (min (v_f v) (ed_rc (v_tx v) (v_c v) (v_q v)).1) ((ed_rc (v_tx v) (v_c v) (v_q v)).1 + 1 - v_w v)))) hM (fun a i q => mm_set_o (by omega)) ⟨r1, r2, rfl⟩, fun K GM hGM => ?_⟩, ⟨⟨⟨i1, i2⟩, iP1, iK1, iH1, ⟨j1, j2, j3⟩, iE1, ⟨z1, z2, z3, z4, (show (max (min (v_f v) (ed_rc (v_tx v) (v_c v) (v_q v)).1) ((ed_rc (v_tx v) (v_c v) (v_q v)).1 + 1 - v_w v)) ≤ 200 by omega)⟩, iB1⟩, iC1⟩, Nat.le_refl _⟩
    · have c := sE_info10 (E := E) hG a1 i1 i2 n1 z2 a3 n3 z5 n2 z4
      rw [exq] at c
      exact c
    · have c := sR_info10 (E := E) (J := mm_mx K M) hGM b1 i1 r1 z1 z2 b3 i2 r3 z5 r2 z3 z4
      rw [mx_r (show 69 ≤ 70 by decide), emq, mx_set (by decide)] at c
      exact c
  · refine ⟨nI (ed_rc (v_tx v) (v_c v) (v_q v)).1, v, ⟨_, _, ?_, ed_CF.rf hX⟩, ⟨_, hM, fun K GM hGM => ?_⟩, hI, Nat.le_refl _⟩
    · have c := sE_info11 (E := E) hG a1 i1 i2 n1 z2 a3 n3 z5 n2 z4
      rw [exq] at c
      exact c
    · have c := sR_info11 (E := E) (J := mm_mx K M) hGM b1 i1 r1 z1 z2 b3 i2
      rw [mx_r (show 69 ≤ 70 by decide), emq] at c
      exact c
  · refine ⟨nI (v_t v), v, ⟨_, _, ?_, ed_CF.rf hX⟩, ⟨_, hM, fun K GM hGM => ?_⟩, hI, Nat.le_refl _⟩
    · have c := sE_info12 (E := E) (J := X) hG
      rw [t1] at c
      exact c
    · have c := sR_info12 (E := E) (J := mm_mx K M) hGM b1 i1
      rw [show mm_mx K M 69 7 = nI (v_t v) from w1] at c
      exact c
  · refine ⟨v_l v, v, ⟨_, _, ?_, ed_CF.rf hX⟩, ⟨_, hM, fun K GM hGM => ?_⟩, hI, Nat.le_refl _⟩
    · have c := sE_info13 (E := E) (J := X) hG
      rw [t2] at c
      exact c
    · have c := sR_info13 (E := E) (J := mm_mx K M) hGM b1 i1
      rw [show mm_mx K M 69 8 = v_l v from w2] at c
      exact c
