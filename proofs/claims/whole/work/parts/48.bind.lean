theorem mm_Met.mono {E : mm_E} {M : mm_M} {as : List Value} {n : Nat} {J : mm_J} {G : mm_G} {P P2 : mm_T} (h : mm_Met E M as n J G P) (hp : ∀ r n J G, P r n J G → P2 r n J G) : mm_Met E M as n J G P2 := by
  intro p e ha hc hk s m args below hf happ hP hK
  obtain ⟨k, o, h1, h2, h3, ⟨r, n', J', G', h4, h5, h6⟩, h7⟩ := h p e ha hc hk s m args below hf happ hP hK
  exact ⟨k, o, h1, h2, h3, ⟨r, n', J', G', h4, hp _ _ _ _ h5, h6⟩, h7⟩
theorem kb_okb {f s t num : Int32} : ed_okb f s t num ↔ ed_fit f s t = true ∧ ¬ num < -1 ∧ num ≤ nI 21 := by
  have e0 : (0 : Int32).toInt = 0 := by decide
  have e1 : (-1 : Int32).toInt = -1 := by decide
  have e15 : (nI 15).toInt = 15 := by decide
  unfold ed_okb ed_fit ed_kn ed_ky
  simp only [Bool.and_eq_true, Bool.or_eq_true, decide_eq_true_eq]
  simp only [Int32.lt_iff_toInt_lt, Int32.le_iff_toInt_le, ← Int32.toInt_inj, e0, e1, e15]
  omega
/-- what an accepted row is made of -/
theorem kb_parts {f s t num : Int32} (h : ed_okb f s t num) : ∃ a b d, a ≤ 15 ∧ b ≤ 16 ∧ d ≤ 16 ∧ (b = 0 → d = 0) ∧ f = nI a ∧ s = nI b - nI 1 ∧ t = nI d - nI 1 ∧ s + nI 1 = nI b ∧ t + nI 1 = nI d := by
  obtain ⟨h1, h2, h3, h4, h5, h6, h7, h8, h9⟩ := h
  obtain ⟨a, ha, rfl⟩ := nI_of2 (n := 15) (M := nI 15) (by decide) h1 (Int32.not_lt.mp h2)
  have aux : ∀ x : Int32, ¬ x < -1 → x ≤ nI 15 → ∃ b, b ≤ 16 ∧ x = nI b - nI 1 ∧ x + nI 1 = nI b ∧ (x < 0 ↔ b = 0) := fun x g1 g2 => by
    by_cases g3 : x < 0
    · have : x = -1 := by
        have e0 : (0 : Int32).toInt = 0 := by decide
        have e1 : (-1 : Int32).toInt = -1 := by decide
        rw [Int32.lt_iff_toInt_lt] at g1 g3
        rw [← Int32.toInt_inj]
        omega
      subst this
      exact ⟨0, by decide, by decide, by decide, by decide⟩
    · obtain ⟨k, hk, rfl⟩ := nI_of2 (n := 15) (M := nI 15) (by decide) g3 g2
      refine ⟨k + 1, by omega, ?_, nI_add k 1, ?_⟩
      · rw [pk_sub (by omega)]
        rfl
      · constructor
        · intro q
          exact absurd q g3
        · intro q
          omega
  obtain ⟨b, b1, b2, b3, b4⟩ := aux s h3 (Int32.not_lt.mp h4)
  obtain ⟨d, d1, d2, d3, d4⟩ := aux t h5 h6
  refine ⟨a, b, d, ha, b1, d1, fun q => ?_, rfl, b2, d2, b3, d3⟩
  rcases h7 with q2 | q2
  · exact d4.mp q2
  · exact absurd (b4.mpr q) q2
/-- the reference's tests by the codes -/
theorem kb_bind {r a b d : Nat} {n num : Int32} (hr : ed_vc r) (ha : a ≤ 15) (hb : b ≤ 16) (hd : d ≤ 16) (hbd : b = 0 → d = 0) :
    ((ed_sz (ed_dq (r, n)) < ed_sz (nI a, nI b - nI 1, nI d - nI 1, num) ∧ ed_bg (ed_sz (ed_dq (r, n))) (nI a) (nI b - nI 1) (nI d - nI 1) (ed_dq (r, n)) = true) ↔ ed_lg ((a + 1) * 289 + b * 17 + d) r = true) ∧
    (ed_kR (ed_sz (nI a, nI b - nI 1, nI d - nI 1, num)) false (nI a) (nI b - nI 1) (nI d - nI 1) (ed_dq (r, n)) = decide (r < (a + 1) * 289 + b * 17 + d ∨ (a + 1) * 289 + b * 17 + d + ed_sp ((a + 1) * 289 + b * 17 + d) ≤ r)) ∧
    (ed_kR (ed_sz (nI a, nI b - nI 1, nI d - nI 1, num)) true (nI a) (nI b - nI 1) (nI d - nI 1) (ed_dq (r, n)) = decide (¬ r = (a + 1) * 289 + b * 17 + d)) := by
  obtain ⟨x, y, z, h1, h2, h3, h4, rfl⟩ := hr
  rw [kb_dq h2 h3, kb_sz h2 h3, kb_sz hb hd]
  have bg : ∀ m, (ed_bg m (nI a) (nI b - nI 1) (nI d - nI 1) (nI x, nI y - nI 1, nI z - nI 1, n) = true) ↔ (x = a ∧ (1 < m → y = b) ∧ (3 ≤ m → z = d)) := fun m => by
    unfold ed_bg
    simp only [decide_eq_true_eq, nI_eq (show x < 2 ^ 31 by omega) (show a < 2 ^ 31 by omega), kb_inj (show y < 2 ^ 30 by omega) (show b < 2 ^ 30 by omega), kb_inj (show z < 2 ^ 30 by omega) (show d < 2 ^ 30 by omega)]
  have bf : ∀ m, (ed_bg m (nI a) (nI b - nI 1) (nI d - nI 1) (nI x, nI y - nI 1, nI z - nI 1, n) = false) ↔ ¬ (x = a ∧ (1 < m → y = b) ∧ (3 ≤ m → z = d)) := fun m => by
    rw [← bg m, Bool.not_eq_true]
  have S1 : ∀ p q : Nat, q ≤ 16 → p ≤ 16 → (p = 0 → q = 0) → ∀ w, ed_sp ((w + 1) * 289 + p * 17 + q) = if p = 0 then 289 else if q = 0 then 17 else 1 := fun p q hq hp hpq w => by
    unfold ed_sp
    rw [if_neg (by omega)]
    by_cases e1 : p = 0
    · have := hpq e1
      rw [if_pos (by omega), if_pos e1]
    · rw [if_neg (by omega), if_neg e1]
      by_cases e2 : q = 0
      · rw [if_pos (by omega), if_pos e2]
      · rw [if_neg (by omega), if_neg e2]
  unfold ed_kR ed_lg
  simp only [kb_sz h2 h3, bg, bf, decide_eq_decide, decide_eq_true_eq, S1 b d hd hb hbd, S1 y z h3 h2 h4, Bool.false_eq_true, false_and, false_or, true_and]
  refine ⟨?_, ?_, ?_⟩
  · split <;> split <;> (try split) <;> (try split) <;> omega
  · split <;> split <;> (try split) <;> (try split) <;> omega
  · split <;> split <;> (try split) <;> (try split) <;> omega
/-- both show v in one memory -/
def ed_SS (v : ed_V) (J : mm_J) (G : mm_G) : Prop := ed_CX v J G ∧ ed_CM v J ∧ ed_I v
/-- one call on both sides, one after the other -/
def ed_BB (E : mm_E) (mX : mm_M) (aX : List Value) (mM : mm_M) (aM : List Value) (v : ed_V) (J : mm_J) (G : mm_G) (s : Nat) : Prop :=
  mm_Met E mX aX 86 J G (fun r n J1 G1 => n = 86 ∧ ∃ x : Int32, r = some (.int x) ∧ mm_Met E mM aM 86 J1 G1 (fun r' n' J2 G2 => n' = 86 ∧ r' = some (.int x) ∧ ∃ v', ed_SS v' J2 G2 ∧ v_m v' ≤ v_m v + s))
theorem ed_BB.ret {E : mm_E} {mX mM : mm_M} {aX aM : List Value} {v v' : ed_V} {J J1 J2 : mm_J} {G G1 G2 : mm_G} {s : Nat} {x : Int32} (h1 : mm_Ret E mX aX 86 J G (some (.int x)) 86 J1 G1) (h2 : mm_Ret E mM aM 86 J1 G1 (some (.int x)) 86 J2 G2) (h3 : ed_SS v' J2 G2) (h4 : v_m v' ≤ v_m v + s) : ed_BB E mX aX mM aM v J G s := by
  refine mm_Met.mono h1 (fun r n J3 G3 e => ?_)
  obtain ⟨rfl, rfl, rfl, rfl⟩ := e
  refine ⟨rfl, x, rfl, mm_Met.mono h2 (fun r n J3 G3 e => ?_)⟩
  obtain ⟨rfl, rfl, rfl, rfl⟩ := e
  exact ⟨rfl, rfl, v', h3, h4⟩
theorem ed_CX.mx {v : ed_V} {X M : mm_J} {G : mm_G} (h : ed_CX v X G) : ed_CX v (mm_mx X M) G := ⟨h.1, h.2.1, h.2.2.1, h.2.2.2.1.fr (fun i _ _ => mx_l (by omega)), h.2.2.2.2.1.fr (fun i _ _ => mx_l (by omega)), h.2.2.2.2.2.1, h.2.2.2.2.2.2.1, h.2.2.2.2.2.2.2.1, h.2.2.2.2.2.2.2.2⟩
theorem ed_CM.mx {v : ed_V} {X M : mm_J} (h : ed_CM v M) : ed_CM v (mm_mx X M) := h
theorem mx_eq {X M : mm_J} (e : ∀ a, 69 ≤ a → X a = M a) : mm_mx X M = X := by
  funext a b
  unfold mm_mx
  split
  · rfl
  · rw [e a (by omega)]
theorem ed_CM.fr {v : ed_V} {M M' : mm_J} (h : ed_CM v M) (e : ∀ a, 69 ≤ a → M' a = M a) : ed_CM v M' := by
  rw [← mx_eq e]
  exact h
theorem ed_BB.of {E : mm_E} {mX mM : mm_M} {aX aM : List Value} {v : ed_V} {J : mm_J} {G : mm_G} {s : Nat} (h : ed_PP E mX aX mM aM v J G J s) : ed_BB E mX aX mM aM v J G s := by
  obtain ⟨r, v', ⟨X', G', h1, h2, h3⟩, ⟨M', h4, h5⟩, h6, h7, -⟩ := h
  have h8 := h5 X' G' h2.1
  rw [mx_eq h3] at h8
  exact ed_BB.ret h1 h8 ⟨h2.mx, h4.mx, h6⟩ h7
theorem ed_CX.bs {v : ed_V} {X X' : mm_J} {G : mm_G} {bs : List (Nat × Int32)} (h : ed_CX v X G) (hf : ∀ i, ¬ i = 60 → ¬ i = 61 → ¬ i = 62 → X' i = X i) (h1 : X' 60 2 = nI bs.length) (h2 : (ed_L X' bs.length).Perm (bs.map ed_ce)) (h3 : X' 60 3 = X 60 3) : ed_CX (v.1, v.2.1, v.2.2.1, v.2.2.2.1, v.2.2.2.2.1, v.2.2.2.2.2.1, v.2.2.2.2.2.2.1, (bs, v.2.2.2.2.2.2.2.2)) X' G :=
  ⟨h.1, h.2.1.fr (hf 2 (by decide) (by decide) (by decide)) (hf 3 (by decide) (by decide) (by decide)) (hf 1 (by decide) (by decide) (by decide)), h.2.2.1.fr (hf 4 (by decide) (by decide) (by decide)) (hf 5 (by decide) (by decide) (by decide)), h.2.2.2.1.fr (fun i _ _ => hf i (by omega) (by omega) (by omega)), h.2.2.2.2.1.fr (fun i _ _ => hf i (by omega) (by omega) (by omega)), h.2.2.2.2.2.1.fr (hf 0 (by decide) (by decide) (by decide)), h.2.2.2.2.2.2.1.fr (hf 63 (by decide) (by decide) (by decide)) (hf 64 (by decide) (by decide) (by decide)) (hf 65 (by decide) (by decide) (by decide)), h.2.2.2.2.2.2.2.1.fr (hf 66 (by decide) (by decide) (by decide)), ⟨h1, h2, h3.trans h.2.2.2.2.2.2.2.2.2.2⟩⟩
theorem ed_CM.bs {v : ed_V} {M M' : mm_J} {bs : List (Nat × Int32)} (h : ed_CM v M) (hf : ∀ a k, ¬ a = 82 → ¬ a = 83 → ¬ (a = 69 ∧ k = 27) → M' a k = M a k) (h1 : M' 69 27 = nI bs.length) (h2 : (ed_LM M' bs.length).Perm (bs.map ed_dq)) : ed_CM (v.1, v.2.1, v.2.2.1, v.2.2.2.1, v.2.2.2.2.1, v.2.2.2.2.2.1, v.2.2.2.2.2.2.1, (bs, v.2.2.2.2.2.2.2.2)) M' := by
  obtain ⟨N, hN⟩ : ∃ N : mm_J, N = fun a k => if a = 82 ∨ a = 83 ∨ (a = 69 ∧ k = 27) then M' a k else M a k := ⟨_, rfl⟩
  have e : M' = N := by
    rw [hN]
    funext a k
    split
    · rfl
    · rename_i q
      exact hf a k (fun e => q (Or.inl e)) (fun e => q (Or.inr (Or.inl e))) (fun e => q (Or.inr (Or.inr e)))
  have h9 : ∀ i, N 84 i = M 84 i := fun i => by rw [hN]; rfl
  rw [e] at h1 h2 ⊢
  refine ⟨by rw [hN]; exact h.1, by rw [hN]; exact h.2.1, by rw [hN]; exact h.2.2.1, by rw [hN]; exact h.2.2.2.1, by rw [hN]; exact h.2.2.2.2.1, by rw [hN]; exact h.2.2.2.2.2.1, by rw [hN]; exact h.2.2.2.2.2.2.1, h1, h2, ?_, fun i hi => (h9 i).trans (h.2.2.2.2.2.2.2.2.2.2 i hi)⟩
  · rw [hN]; exact h.2.2.2.2.2.2.2.2.2.1
theorem ed_CX.fr {v : ed_V} {X X' : mm_J} {G : mm_G} (h : ed_CX v X G) (e : ∀ a, a < 69 → X' a = X a) : ed_CX v X' G := by
  have q : X' = mm_mx X X' := by
    funext a b
    unfold mm_mx
    split
    · rw [e a (by omega)]
    · rfl
  rw [q]
  exact h.mx
theorem kb_fm {α β : Type} {l : List α} {f : α → β} {p : β → Bool} {q : α → Bool} (h : ∀ a ∈ l, p (f a) = q a) : (l.map f).filter p = (l.filter q).map f := by
  rw [List.filter_map]
  congr 1
  exact List.filter_congr (fun a ha => h a ha)
theorem kb_sub {bs : List (Nat × Int32)} {pd : Nat} {q : Nat × Int32 → Bool} (h : iB (bs, pd)) : iB (bs.filter q, pd) := by
  obtain ⟨h1, h2, h3, h4, h5⟩ := h
  refine ⟨Nat.le_trans (List.length_filter_le _ _) h1, fun e he => h2 e ((List.mem_filter.mp he).1), fun e he d hd => h3 e ((List.mem_filter.mp he).1) d ((List.mem_filter.mp hd).1), ?_, h5⟩
  exact h4.sublist (List.filter_sublist.map _)
theorem kb_add {bs : List (Nat × Int32)} {pd row : Nat} {num : Int32} (h : iB (bs, pd)) (hr : ed_vc row) (hn : ∃ k, k ≤ 21 ∧ num = nI k) (hl : bs.length < 24) (h1 : ∀ e ∈ bs, e.1 < row ∨ row + ed_sp row ≤ e.1) (h2 : ∀ e ∈ bs, ed_lg row e.1 = false) : iB (bs ++ [(row, num)], pd) := by
  obtain ⟨g1, g2, g3, g4, g5⟩ := h
  have hsp := ed_sp_le row
  refine ⟨by simp; omega, fun e he => ?_, fun e he d hd => ?_, ?_, g5⟩
  · rcases List.mem_append.mp he with q | q
    · exact g2 e q
    · rw [List.mem_singleton.mp q]
      exact ⟨hr, hn⟩
  · rcases List.mem_append.mp he with q | q <;> rcases List.mem_append.mp hd with z | z
    · exact g3 e q d z
    · rw [List.mem_singleton.mp z]
      have := h1 e q
      exact decide_eq_false (by dsimp only; omega)
    · rw [List.mem_singleton.mp q]
      exact h2 d z
    · rw [List.mem_singleton.mp q, List.mem_singleton.mp z]
      exact decide_eq_false (by dsimp only; omega)
  · rw [List.map_append, List.nodup_append]
    refine ⟨g4, by simp, fun a ha b hb => ?_⟩
    obtain ⟨e, he, rfl⟩ := List.mem_map.mp ha
    rw [List.map_singleton, List.mem_singleton] at hb
    subst hb
    have := h1 e he
    omega
theorem ed_I.bs {v : ed_V} (h : ed_I v) {bs : List (Nat × Int32)} (hx : iB (bs, v_pd v)) : ed_I (v.1, v.2.1, v.2.2.1, v.2.2.2.1, v.2.2.2.2.1, v.2.2.2.2.2.1, v.2.2.2.2.2.2.1, (bs, v.2.2.2.2.2.2.2.2)) := by
  obtain ⟨⟨h1, h2, h3, h4, h5, h6, h7, h8⟩, h9⟩ := h
  exact ⟨⟨h1, h2, h3, h4, h5, h6, h7, hx⟩, h9⟩
theorem kb_num {num : Int32} (h1 : ¬ num < -1) (h2 : num ≤ nI 21) : num = -1 ∨ (¬ num < 0 ∧ ∃ k, k ≤ 21 ∧ num = nI k) := by
  by_cases g3 : num < 0
  · left
    have e0 : (0 : Int32).toInt = 0 := by decide
    have e1 : (-1 : Int32).toInt = -1 := by decide
    rw [Int32.lt_iff_toInt_lt] at h1 g3
    rw [← Int32.toInt_inj]
    omega
  · exact Or.inr ⟨g3, nI_of2 (n := 21) (M := nI 21) (by decide) g3 h2⟩
theorem bb_bind {E : mm_E} {v : ed_V} {J : mm_J} {G : mm_G} (hS : ed_SS v J G) {f s t num : Int32} : ed_BB E qE_bind [.ref 0, .int f, .int s, .int t, .int num] qR_bind [.ref 69, .int f, .int s, .int t, .int num] v J G 0 := by
  obtain ⟨hX, hM, hI⟩ := id hS
  have hG := hX.1
  by_cases hok : ¬ ed_okb f s t num
  · refine ed_BB.ret (sE_bind0 ?_) (sR_bind0 hok) hS (Nat.le_refl _)
    rw [kb_okb] at hok
    by_cases a1 : ed_fit f s t = true
    · by_cases a2 : num < -1
      · exact Or.inr (Or.inl a2)
      · exact Or.inr (Or.inr (Int32.not_le.mp (fun a3 => hok ⟨a1, a2, a3⟩)))
    · exact Or.inl (by simpa using a1)
  replace hok := Classical.not_not.mp hok
  obtain ⟨hfit, n1, n2⟩ := kb_okb.mp hok
  obtain ⟨a, b, d, ha, hb, hd, hbd, hfa, hsb, htd, hs1, ht1⟩ := kb_parts hok
  have hB : xB (v_B v) J := hX.2.2.2.2.2.2.2.2
  have hBm : mB (v_B v) J := hM.2.2.2.2.2.2.2
  have iB1 : iB (v_B v) := hI.1.2.2.2.2.2.2.2
  obtain ⟨l1, l2, l3, l4, l5⟩ := id iB1
  obtain ⟨row, hrow⟩ : ∃ row, row = (a + 1) * 289 + b * 17 + d := ⟨_, rfl⟩
  have hvr : ed_vc row := ⟨a, b, d, ha, hb, hd, hbd, hrow⟩
  have hr6 : row < 6000 := by omega
  have hsp := ed_sp_le row
  have hbd2 : ∀ i, i < (v_B v).1.length → J 61 i = nI (J 61 i).toNatClampNeg ∧ (J 61 i).toNatClampNeg < 5000 := fun i hi => kb_bd hB iB1 hi
  have hxi : ∀ i, i < (v_B v).1.length → ∃ e ∈ (v_B v).1, (J 61 i).toNatClampNeg = e.1 ∧ J 62 i = e.2 := fun i hi => by
    obtain ⟨e, g1, g2, g3⟩ := kb_xi hB hi
    exact ⟨e, g1, by rw [g2, nI_clamp (by have := kb_vc (l2 e g1).1; omega)], g3⟩
  have hcl : ∀ {Post : mm_T}, mm_Met E qY_assign [.ref 60, .int (nI row), .int num] 86 J G Post → (∀ r n J' G', Post r n J' G' → n = 86 ∧ ∃ x, r = some (.int x)) → mm_Met E qE_bind [.ref 0, .int f, .int s, .int t, .int num] 86 J G Post := fun hA hr => by
    rw [hfa] at hfit ⊢
    rw [hrow] at hA
    exact sE_bind1 hG hs1 ht1 n1 n2 hA hr hfit
  have kbb := fun (e : Nat × Int32) (he : e ∈ (v_B v).1) => kb_bind (n := e.2) (num := num) (l2 e he).1 ha hb hd hbd
  simp only [← hsb, ← htd, ← hfa, ← hrow] at kbb
  have hre : ∀ J1 : mm_J, ed_CM v J1 → (∀ e ∈ (v_B v).1, ed_lg row e.1 = false) → ∀ j, j < (v_B v).1.length → ed_sz (ed_e J1 j) < ed_sz (f, s, t, num) → ed_bg (ed_sz (ed_e J1 j)) f s t (ed_e J1 j) = false := fun J1 hM1 hno j hj hlt => by
    obtain ⟨e, z1, z2⟩ := kb_mi hM1.2.2.2.2.2.2.2 hj
    rw [z2] at hlt ⊢
    cases hx : ed_bg (ed_sz (ed_dq e)) f s t (ed_dq e) with
    | false => rfl
    | true => exact absurd ((kbb e z1).1.mp ⟨hlt, hx⟩) (by rw [hno e z1]; decide)
  by_cases hF : ∃ e ∈ (v_B v).1, ed_lg row e.1 = true
  · obtain ⟨e, he, hl⟩ := hF
    obtain ⟨i1, q1, q2, q3⟩ := kb_xe hB he
    obtain ⟨j1, u1, u2⟩ := kb_me hBm he
    refine ed_BB.ret (hcl (sY_assignF hG hB.1 l1 hbd2 hr6 ⟨i1, q1, ?_⟩) (fun r n J' G' e => by obtain ⟨rfl, rfl, rfl, rfl⟩ := e; exact ⟨rfl, _, rfl⟩)) (sR_bindF hG hBm.1 l1 hok ⟨j1, u1, by rw [u2]; exact (kbb e he).1.mpr hl⟩) hS (Nat.le_refl _)
    show ed_lg row (J 61 i1).toNatClampNeg = true
    rw [q2, nI_clamp (by have := kb_vc (l2 e he).1; omega)]
    exact hl
  have hno : ∀ e ∈ (v_B v).1, ed_lg row e.1 = false := fun e he => by
    cases hx : ed_lg row e.1 with
    | false => rfl
    | true => exact absurd ⟨e, he, hx⟩ hF
  have hnoX : ∀ j, j < (v_B v).1.length → ed_lg row (J 61 j).toNatClampNeg = false := fun j hj => by
    obtain ⟨e, z1, z2, z3⟩ := hxi j hj
    rw [z2]
    exact hno e z1
  have hkp : ∀ b1, b1 < 2 ^ 30 → ∀ e ∈ (v_B v).1, ed_kp row b1 (ed_ce e) = decide (e.1 < row ∨ b1 ≤ e.1) := fun b1 hb1 e he => by
    have := kb_vc (l2 e he).1
    unfold ed_kp ed_ce
    rw [decide_eq_decide]
    dsimp only
    rw [nI_ltI (by omega) (by omega), nI_ltI (by omega) (by omega)]
    omega
  rcases kb_num n1 n2 with hnum | ⟨hnn, hnk⟩
  · subst hnum
    refine mm_Met.mono (hcl (sY_assignU hG hB.1 l1 hbd2 hr6 hnoX) (fun r n J' G' e => ⟨e.2.2.1, _, e.2.1⟩)) (fun r n J1 G1 e => ?_)
    obtain ⟨rfl, rfl, rfl, ⟨c', y1, y2, y3⟩, y4, y5⟩ := e
    have hM1 : ed_CM v J1 := hM.fr (fun a ha => y5 a (by omega) (by omega) (by omega))
    have hBm1 : mB (v_B v) J1 := hM1.2.2.2.2.2.2.2
    refine ⟨rfl, nI 0, rfl, mm_Met.mono (sR_bindU hG hBm1.1 l1 hok (hre J1 hM1 hno) (by decide)) (fun r n J2 G2 e => ?_)⟩
    obtain ⟨rfl, rfl, rfl, c2, w1, w2, w3, w4⟩ := e
    have hfx : (ed_L J1 c').Perm (((v_B v).1.filter (fun e => decide (e.1 < row ∨ row + 1 ≤ e.1))).map ed_ce) := by
      rw [y3, ← kb_fm (hkp (row + 1) (by omega))]
      exact hB.2.1.filter _
    have hfm : (ed_LM J2 c2).Perm (((v_B v).1.filter (fun e => decide (e.1 < row ∨ row + 1 ≤ e.1))).map ed_dq) := by
      refine w3.trans ?_
      rw [← kb_fm (p := ed_kR (ed_sz (f, s, t, -1)) true f s t) (fun e he => by
        refine (kbb e he).2.2.trans ?_
        rw [decide_eq_decide]
        omega)]
      exact hBm1.2.1.filter _
    have hc1 := hfx.length_eq
    have hc2 := hfm.length_eq
    rw [ed_L_l, List.length_map] at hc1
    rw [ed_LS_l, List.length_map] at hc2
    subst hc1
    subst hc2
    exact ⟨rfl, rfl, _, ⟨(ed_CX.bs (ed_CX.bs hX y5 y2 hfx y4) (fun i _ _ _ => rfl) y2 hfx rfl).fr (fun a ha => by funext k; exact w4 a k (by omega) (by omega) (by omega)), hM1.bs w4 w2 hfm, hI.bs (kb_sub iB1)⟩, Nat.le_refl _⟩
  · have hnm : ¬ num = -1 := fun e => hnn (by rw [e]; decide)
    have hfx0 : ((ed_L J (v_B v).1.length).filter (ed_kp row (row + ed_sp row))).Perm (((v_B v).1.filter (fun e => decide (e.1 < row ∨ row + ed_sp row ≤ e.1))).map ed_ce) := by
      rw [← kb_fm (hkp (row + ed_sp row) (by omega))]
      exact hB.2.1.filter _
    have hlen := hfx0.length_eq
    rw [ed_go_len hr6 _ hbd2, List.length_map] at hlen
    have hfm0 : ∀ J1 : mm_J, ed_CM v J1 → ((ed_LM J1 (v_B v).1.length).filter (ed_kR (ed_sz (f, s, t, num)) false f s t)).Perm (((v_B v).1.filter (fun e => decide (e.1 < row ∨ row + ed_sp row ≤ e.1))).map ed_dq) := fun J1 hM1 => by
      have hBm1 : mB (v_B v) J1 := hM1.2.2.2.2.2.2.2
      rw [← kb_fm (p := ed_kR (ed_sz (f, s, t, num)) false f s t) (fun e he => (kbb e he).2.1)]
      exact hBm1.2.1.filter _
    by_cases hfull : ¬ ((v_B v).1.filter (fun e => decide (e.1 < row ∨ row + ed_sp row ≤ e.1))).length < 24
    · refine ed_BB.ret (hcl (sY_assignX hG hB.1 l1 hbd2 hr6 hnoX hnm (by omega)) (fun r n J' G' e => by obtain ⟨rfl, rfl, rfl, rfl⟩ := e; exact ⟨rfl, _, rfl⟩)) (sR_bindX hG hBm.1 l1 hok (hre J hM hno) hnn ?_) hS (Nat.le_refl _)
      have := List.length_filter_le (fun e : Nat × Int32 => decide (e.1 < row ∨ row + ed_sp row ≤ e.1)) (v_B v).1
      rw [(hfm0 J hM).length_eq, List.length_map]
      omega
    replace hfull := Classical.not_not.mp hfull
    refine mm_Met.mono (hcl (sY_assignB hG hB.1 l1 hbd2 hr6 hnoX hnm (by omega)) (fun r n J' G' e => ⟨e.2.2.1, _, e.2.1⟩)) (fun r n J1 G1 e => ?_)
    obtain ⟨rfl, rfl, rfl, ⟨c', y1, y2, y3⟩, y4, y5⟩ := e
    have hM1 : ed_CM v J1 := hM.fr (fun a ha => y5 a (by omega) (by omega) (by omega))
    have hBm1 : mB (v_B v) J1 := hM1.2.2.2.2.2.2.2
    refine ⟨rfl, nI 0, rfl, mm_Met.mono (sR_bindB hG hBm1.1 l1 hok (hre J1 hM1 hno) hnn (by rw [(hfm0 J1 hM1).length_eq, List.length_map]; exact hfull)) (fun r n J2 G2 e => ?_)⟩
    obtain ⟨rfl, rfl, rfl, c2, w1, w2, w3, w4⟩ := e
    have hfx : (ed_L J1 c').Perm (((v_B v).1.filter (fun e => decide (e.1 < row ∨ row + ed_sp row ≤ e.1)) ++ [(row, num)]).map ed_ce) := by
      rw [y3, List.map_append]
      exact hfx0.append_right _
    have hfm : (ed_LM J2 c2).Perm (((v_B v).1.filter (fun e => decide (e.1 < row ∨ row + ed_sp row ≤ e.1)) ++ [(row, num)]).map ed_dq) := by
      refine w3.trans ?_
      rw [List.map_append, List.map_singleton, show ed_dq (row, num) = (f, s, t, num) from by rw [hrow, kb_dq hb hd, hfa, hsb, htd]]
      exact (hfm0 J1 hM1).append_right _
    have hc1 := hfx.length_eq
    have hc2 := hfm.length_eq
    rw [ed_L_l, List.length_map] at hc1
    rw [ed_LS_l, List.length_map] at hc2
    subst hc1
    subst hc2
    refine ⟨rfl, rfl, _, ⟨(ed_CX.bs hX y5 y2 hfx y4).fr (fun a ha => by funext k; exact w4 a k (by omega) (by omega) (by omega)), hM1.bs w4 w2 hfm, hI.bs (kb_add (kb_sub iB1) hvr hnk hfull (fun e he => of_decide_eq_true (List.mem_filter.mp he).2) (fun e he => hno e ((List.mem_filter.mp he).1)))⟩, Nat.le_refl _⟩
