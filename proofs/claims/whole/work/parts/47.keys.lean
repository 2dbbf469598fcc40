theorem kb_neg {b : Nat} (hb : b < 2 ^ 30) : nI b - nI 1 < 0 ↔ b = 0 := by
  constructor
  · intro h
    rcases Nat.eq_zero_or_pos b with e | e
    · exact e
    · rw [pk_sub (by omega)] at h
      exact absurd h (nI_pos (by omega))
  · rintro rfl
    decide
theorem kb_eq {b x : Nat} (hb : b < 2 ^ 30) (hx : x < 2 ^ 30) : nI b - nI 1 = nI x ↔ b = x + 1 := by
  rcases Nat.eq_zero_or_pos b with e | e
  · subst e
    constructor
    · intro h
      exact absurd (kb_neg (b := 0) (by decide) |>.mpr rfl) (by rw [h]; exact nI_pos (by omega))
    · intro h
      omega
  · rw [pk_sub (by omega), nI_eq (by omega) (by omega)]
    omega
theorem kb_inj {b c : Nat} (hb : b < 2 ^ 30) (hc : c < 2 ^ 30) : nI b - nI 1 = nI c - nI 1 ↔ b = c := by
  rcases Nat.eq_zero_or_pos c with e | e
  · subst e
    constructor
    · intro h
      exact (kb_neg hb).mp (by rw [h]; decide)
    · rintro rfl
      rfl
  · rw [pk_sub (a := c) (by omega), kb_eq hb (by omega)]
    omega
theorem kb_dq {a b d : Nat} {n : Int32} (hb : b ≤ 16) (hd : d ≤ 16) : ed_dq ((a + 1) * 289 + b * 17 + d, n) = (nI a, nI b - nI 1, nI d - nI 1, n) := by
  unfold ed_dq
  dsimp only
  rw [show ((a + 1) * 289 + b * 17 + d) / 289 = a + 1 by omega, show ((a + 1) * 289 + b * 17 + d) / 17 % 17 = b by omega, show ((a + 1) * 289 + b * 17 + d) % 17 = d by omega, pk_sub (a := a + 1) (by omega)]
  rfl
theorem kb_sz {a : Int32} {b d : Nat} {n : Int32} (hb : b ≤ 16) (hd : d ≤ 16) : ed_sz (a, nI b - nI 1, nI d - nI 1, n) = if b = 0 then 1 else if d = 0 then 2 else 3 := by
  unfold ed_sz
  dsimp only
  simp only [kb_neg (show b < 2 ^ 30 by omega), kb_neg (show d < 2 ^ 30 by omega)]
theorem kb_vc {r : Nat} (h : ed_vc r) : r < 5000 ∧ 289 ≤ r := by
  obtain ⟨a, b, d, h1, h2, h3, h4, rfl⟩ := h
  omega
/-- the row that the pending keys and one more make -/
theorem kb_key {r pd key : Nat} {n p0 p1 p2 : Int32} (hr : ed_vc r) (hpd : ed_vd pd) (hk : key ≤ 15) (hp : ∀ i, i < ed_pn pd → (if i = 0 then p0 else if i = 1 then p1 else p2) = ed_pk pd i) (hq : (if ed_pn pd = 0 then p0 else if ed_pn pd = 1 then p1 else p2) = nI key) :
    ((ed_bg (ed_pn pd + 1) p0 p1 p2 (ed_dq (r, n)) = true ∧ ed_sz (ed_dq (r, n)) = ed_pn pd + 1) ↔ r = ed_row pd key) ∧
    ((ed_bg (ed_pn pd + 1) p0 p1 p2 (ed_dq (r, n)) = true ∧ ed_pn pd + 1 < ed_sz (ed_dq (r, n))) ↔ ed_lg r (ed_row pd key) = true) := by
  obtain ⟨a, b, d, h1, h2, h3, h4, rfl⟩ := hr
  rw [kb_dq h2 h3, kb_sz h2 h3]
  rcases hpd with rfl | ⟨x, hx, rfl⟩ | ⟨x, y, hx, hy, rfl⟩
  · rw [show ed_pn 0 = 0 from rfl] at hq ⊢
    have hq : p0 = nI key := hq
    unfold ed_bg ed_lg
    rw [show ed_row 0 key = (key + 1) * 289 from by unfold ed_row ed_sp; simp, show ed_sp ((key + 1) * 289) = 289 from by unfold ed_sp; rw [if_neg (by omega), if_pos (by omega)]]
    simp only [decide_eq_true_eq, hq, nI_eq (show a < 2 ^ 31 by omega) (show key < 2 ^ 31 by omega), show ¬ 1 < 0 + 1 by decide, show ¬ 3 ≤ 0 + 1 by decide, false_implies, and_true]
    constructor
    · constructor
      · rintro ⟨rfl, h⟩
        (repeat' split at h) <;> omega
      · intro h
        refine ⟨by omega, ?_⟩
        rw [if_pos (by omega)]
    · constructor
      · rintro ⟨rfl, h⟩
        split at h <;> omega
      · intro h
        refine ⟨by omega, ?_⟩
        rw [if_neg (by omega)]
        split <;> omega
  · have e1 : ed_pn ((x + 1) * 289) = 1 := by unfold ed_pn; rw [if_neg (by omega), if_pos (by omega)]
    have hp0 := hp 0 (by omega)
    rw [e1] at hq ⊢
    have hq : p1 = nI key := hq
    replace hp0 : p0 = nI ((x + 1) * 289 / 289) - nI 1 := hp0
    rw [show (x + 1) * 289 / 289 = x + 1 by omega, pk_sub (by omega), show x + 1 - 1 = x by omega] at hp0
    unfold ed_bg ed_lg
    rw [show ed_row ((x + 1) * 289) key = (x + 1) * 289 + (key + 1) * 17 from by unfold ed_row ed_sp; rw [if_neg (by omega), if_pos (by omega)], show ed_sp ((x + 1) * 289 + (key + 1) * 17) = 17 from by unfold ed_sp; rw [if_neg (by omega), if_neg (by omega), if_pos (by omega)]]
    simp only [decide_eq_true_eq, hq, hp0, nI_eq (show a < 2 ^ 31 by omega) (show x < 2 ^ 31 by omega), kb_eq (show b < 2 ^ 30 by omega) (show key < 2 ^ 30 by omega), show 1 < 1 + 1 by decide, show ¬ 3 ≤ 1 + 1 by decide, false_implies, and_true, forall_const]
    constructor
    · constructor
      · rintro ⟨⟨rfl, rfl⟩, h⟩
        (repeat' split at h) <;> omega
      · intro h
        refine ⟨⟨by omega, by omega⟩, ?_⟩
        rw [if_neg (by omega), if_pos (by omega)]
    · constructor
      · rintro ⟨⟨rfl, rfl⟩, h⟩
        (repeat' split at h) <;> omega
      · intro h
        refine ⟨⟨by omega, by omega⟩, ?_⟩
        rw [if_neg (by omega), if_neg (by omega)]
        decide
  · have e1 : ed_pn ((x + 1) * 289 + (y + 1) * 17) = 2 := by unfold ed_pn; rw [if_neg (by omega), if_neg (by omega)]
    have hp0 := hp 0 (by omega)
    have hp1 := hp 1 (by omega)
    rw [e1] at hq ⊢
    have hq : p2 = nI key := hq
    replace hp0 : p0 = nI (((x + 1) * 289 + (y + 1) * 17) / 289) - nI 1 := hp0
    replace hp1 : p1 = nI (((x + 1) * 289 + (y + 1) * 17) / 17 % 17) - nI 1 := hp1
    rw [show ((x + 1) * 289 + (y + 1) * 17) / 289 = x + 1 by omega, pk_sub (by omega), show x + 1 - 1 = x by omega] at hp0
    rw [show ((x + 1) * 289 + (y + 1) * 17) / 17 % 17 = y + 1 by omega, pk_sub (by omega), show y + 1 - 1 = y by omega] at hp1
    unfold ed_bg ed_lg
    rw [show ed_row ((x + 1) * 289 + (y + 1) * 17) key = (x + 1) * 289 + (y + 1) * 17 + (key + 1) from by unfold ed_row ed_sp; rw [if_neg (by omega), if_neg (by omega), if_pos (by omega)]; omega, show ed_sp ((x + 1) * 289 + (y + 1) * 17 + (key + 1)) = 1 from by unfold ed_sp; rw [if_neg (by omega), if_neg (by omega), if_neg (by omega)]]
    simp only [decide_eq_true_eq, hq, hp0, hp1, nI_eq (show a < 2 ^ 31 by omega) (show x < 2 ^ 31 by omega), kb_eq (show b < 2 ^ 30 by omega) (show y < 2 ^ 30 by omega), kb_eq (show d < 2 ^ 30 by omega) (show key < 2 ^ 30 by omega), show 1 < 2 + 1 by decide, show 3 ≤ 2 + 1 by decide, forall_const]
    constructor
    · constructor
      · rintro ⟨⟨rfl, rfl, rfl⟩, h⟩
        omega
      · intro h
        refine ⟨⟨by omega, by omega, by omega⟩, ?_⟩
        rw [if_neg (by omega), if_neg (by omega)]
    · constructor
      · rintro ⟨⟨rfl, rfl, rfl⟩, h⟩
        (repeat' split at h) <;> omega
      · intro h
        omega
/-- a longer row leaves its beginning pending -/
theorem kb_pend {r pd key : Nat} (hpd : ed_vd pd) (hk : key ≤ 15) (h : ed_lg r (ed_row pd key) = true) : ed_vd (ed_row pd key) ∧ ed_pn (ed_row pd key) = ed_pn pd + 1 ∧ (∀ i, i < ed_pn pd → ed_pk (ed_row pd key) i = ed_pk pd i) ∧ ed_pk (ed_row pd key) (ed_pn pd) = nI key := by
  rcases hpd with rfl | ⟨x, hx, rfl⟩ | ⟨x, y, hx, hy, rfl⟩
  · rw [show ed_row 0 key = (key + 1) * 289 from by unfold ed_row ed_sp; simp]
    refine ⟨Or.inr (Or.inl ⟨key, hk, rfl⟩), ?_, fun i hi => absurd hi (Nat.not_lt_zero i), ?_⟩
    · unfold ed_pn
      rw [if_neg (by omega), if_pos (by omega), if_pos rfl]
    · show nI ((key + 1) * 289 / 289) - nI 1 = nI key
      rw [show (key + 1) * 289 / 289 = key + 1 by omega, pk_sub (by omega)]
      rfl
  · have e1 : ed_pn ((x + 1) * 289) = 1 := by unfold ed_pn; rw [if_neg (by omega), if_pos (by omega)]
    rw [show ed_row ((x + 1) * 289) key = (x + 1) * 289 + (key + 1) * 17 from by unfold ed_row ed_sp; rw [if_neg (by omega), if_pos (by omega)], e1]
    refine ⟨Or.inr (Or.inr ⟨x, key, hx, hk, rfl⟩), ?_, fun i hi => ?_, ?_⟩
    · unfold ed_pn
      rw [if_neg (by omega), if_neg (by omega)]
    · obtain rfl : i = 0 := by omega
      show nI (((x + 1) * 289 + (key + 1) * 17) / 289) - nI 1 = nI ((x + 1) * 289 / 289) - nI 1
      rw [show ((x + 1) * 289 + (key + 1) * 17) / 289 = (x + 1) * 289 / 289 by omega]
    · show nI (((x + 1) * 289 + (key + 1) * 17) / 17 % 17) - nI 1 = nI key
      rw [show ((x + 1) * 289 + (key + 1) * 17) / 17 % 17 = key + 1 by omega, pk_sub (by omega)]
      rfl
  · rw [show ed_row ((x + 1) * 289 + (y + 1) * 17) key = (x + 1) * 289 + (y + 1) * 17 + (key + 1) from by unfold ed_row ed_sp; rw [if_neg (by omega), if_neg (by omega), if_pos (by omega)]; omega] at h
    unfold ed_lg at h
    rw [show ed_sp ((x + 1) * 289 + (y + 1) * 17 + (key + 1)) = 1 from by unfold ed_sp; rw [if_neg (by omega), if_neg (by omega), if_neg (by omega)], decide_eq_true_eq] at h
    omega
theorem kb_row {pd key : Nat} (hpd : ed_vd pd) (hk : key ≤ 15) : 0 < ed_row pd key ∧ ed_row pd key < 6000 ∧ ed_pn pd ≤ 2 := by
  rcases hpd with rfl | ⟨x, hx, rfl⟩ | ⟨x, y, hx, hy, rfl⟩
  · refine ⟨?_, ?_, by decide⟩ <;> (rw [show ed_row 0 key = (key + 1) * 289 from by unfold ed_row ed_sp; simp]; omega)
  · refine ⟨?_, ?_, by unfold ed_pn; split <;> (try split) <;> omega⟩ <;> (rw [show ed_row ((x + 1) * 289) key = (x + 1) * 289 + (key + 1) * 17 from by unfold ed_row ed_sp; rw [if_neg (by omega), if_pos (by omega)]]; omega)
  · refine ⟨?_, ?_, by unfold ed_pn; split <;> (try split) <;> omega⟩ <;> (rw [show ed_row ((x + 1) * 289 + (y + 1) * 17) key = (x + 1) * 289 + (y + 1) * 17 + (key + 1) from by unfold ed_row ed_sp; rw [if_neg (by omega), if_neg (by omega), if_pos (by omega)]; omega]; omega)
theorem kb_sk0 {bd : Nat → Nat} {row c : Nat} : ∀ n v, n ≤ c → (∀ j, j < c → ed_lg (bd j) row = false) → ed_skV bd row c n v = v
  | 0, _, _, _ => rfl
  | n + 1, v, hn, h => by rw [ed_skV, if_neg (by rw [h _ (by omega)]; decide)]; exact kb_sk0 n v (by omega) h
theorem kb_sk2 {bd : Nat → Nat} {row c : Nat} : ∀ n, ed_skV bd row c n row = row
  | 0 => rfl
  | n + 1 => by rw [ed_skV, ite_self]; exact kb_sk2 n
theorem kb_sk1 {bd : Nat → Nat} {row c : Nat} : ∀ n v, n ≤ c → (∃ j, c - n ≤ j ∧ j < c ∧ ed_lg (bd j) row = true) → ed_skV bd row c n v = row
  | 0, _, _, ⟨j, h1, h2, _⟩ => by omega
  | n + 1, v, hn, ⟨j, h1, h2, h3⟩ => by
    rw [ed_skV]
    by_cases e : j = c - (n + 1)
    · subst e
      rw [if_pos h3]
      exact kb_sk2 n
    · exact kb_sk1 n _ (by omega) ⟨j, by omega, h2, h3⟩
theorem kb_rv0 {q : Nat → Bool} {c : Nat} : ∀ n v, n ≤ c → (∀ j, j < c → q j = false) → ed_rv q c n v = v
  | 0, _, _, _ => rfl
  | n + 1, v, hn, h => by rw [ed_rv, if_neg (by rw [h _ (by omega)]; decide)]; exact kb_rv0 n v (by omega) h
theorem kb_rv2 {q : Nat → Bool} {c : Nat} : ∀ n, ed_rv q c n 1 = 1
  | 0 => rfl
  | n + 1 => by rw [ed_rv, ite_self]; exact kb_rv2 n
theorem kb_rv1 {q : Nat → Bool} {c : Nat} : ∀ n v, n ≤ c → (∃ j, c - n ≤ j ∧ j < c ∧ q j = true) → ed_rv q c n v = 1
  | 0, _, _, ⟨j, h1, h2, _⟩ => by omega
  | n + 1, v, hn, ⟨j, h1, h2, h3⟩ => by
    rw [ed_rv]
    by_cases e : j = c - (n + 1)
    · subst e
      rw [if_pos h3]
      exact kb_rv2 n
    · exact kb_rv1 n _ (by omega) ⟨j, by omega, h2, h3⟩
theorem kb_least {p : Nat → Bool} : ∀ c, (∃ i, i < c ∧ p i = true) → ∃ i, i < c ∧ p i = true ∧ ∀ j, j < i → p j = false
  | 0, ⟨i, h, _⟩ => absurd h (Nat.not_lt_zero i)
  | c + 1, ⟨i, h, hp⟩ => by
    by_cases h2 : ∃ i, i < c ∧ p i = true
    · obtain ⟨k, h3, h4⟩ := kb_least c h2
      exact ⟨k, by omega, h4⟩
    · refine ⟨i, h, hp, fun j hj => ?_⟩
      cases hx : p j with
      | false => rfl
      | true => exact absurd ⟨j, by omega, hx⟩ h2
theorem kb_nd : ∀ {bs : List (Nat × Int32)}, (bs.map Prod.fst).Nodup → ∀ {e d}, e ∈ bs → d ∈ bs → e.1 = d.1 → e = d
  | [], _, _, _, h, _, _ => absurd h List.not_mem_nil
  | b :: bs, hn, e, d, he, hd, hed => by
    rw [List.map_cons, List.nodup_cons] at hn
    rcases List.mem_cons.mp he with e1 | e1 <;> rcases List.mem_cons.mp hd with e2 | e2
    · rw [e1, e2]
    · exact absurd (by rw [← e1, hed]; exact List.mem_map_of_mem e2) hn.1
    · exact absurd (by rw [← e2, ← hed]; exact List.mem_map_of_mem e1) hn.1
    · exact kb_nd hn.2 e1 e2 hed
/-- the bindings by their places -/
theorem kb_xi {a : ed_VB} {X : mm_J} (h : xB a X) {i : Nat} (hi : i < a.1.length) : ∃ e ∈ a.1, X 61 i = nI e.1 ∧ X 62 i = e.2 := by
  have h1 : (X 61 i, X 62 i) ∈ ed_L X a.1.length := List.mem_map.mpr ⟨i, List.mem_range.mpr hi, rfl⟩
  obtain ⟨e, h2, h3⟩ := List.mem_map.mp (h.2.1.mem_iff.mp h1)
  exact ⟨e, h2, (congrArg Prod.fst h3).symm, (congrArg Prod.snd h3).symm⟩
theorem kb_xe {a : ed_VB} {X : mm_J} (h : xB a X) {e : Nat × Int32} (he : e ∈ a.1) : ∃ i, i < a.1.length ∧ X 61 i = nI e.1 ∧ X 62 i = e.2 := by
  obtain ⟨i, h2, h3⟩ := List.mem_map.mp (h.2.1.mem_iff.mpr (List.mem_map_of_mem he))
  exact ⟨i, List.mem_range.mp h2, congrArg Prod.fst h3, congrArg Prod.snd h3⟩
theorem kb_mi {a : ed_VB} {M : mm_J} (h : mB a M) {i : Nat} (hi : i < a.1.length) : ∃ e ∈ a.1, ed_e M i = ed_dq e := by
  have h1 : ed_e M i ∈ ed_LM M a.1.length := List.mem_map.mpr ⟨i, List.mem_range.mpr hi, by rw [Nat.zero_add]⟩
  obtain ⟨e, h2, h3⟩ := List.mem_map.mp (h.2.1.mem_iff.mp h1)
  exact ⟨e, h2, h3.symm⟩
theorem kb_me {a : ed_VB} {M : mm_J} (h : mB a M) {e : Nat × Int32} (he : e ∈ a.1) : ∃ i, i < a.1.length ∧ ed_e M i = ed_dq e := by
  obtain ⟨i, h2, h3⟩ := List.mem_map.mp (h.2.1.mem_iff.mpr (List.mem_map_of_mem he))
  exact ⟨i, List.mem_range.mp h2, by rw [Nat.zero_add] at h3; exact h3⟩
theorem kb_bd {a : ed_VB} {X : mm_J} (h : xB a X) (hI : iB a) {i : Nat} (hi : i < a.1.length) : X 61 i = nI (X 61 i).toNatClampNeg ∧ (X 61 i).toNatClampNeg < 5000 := by
  obtain ⟨e, h1, h2, -⟩ := kb_xi h hi
  have h3 := kb_vc (hI.2.1 e h1).1
  rw [h2, nI_clamp (by omega)]
  exact ⟨rfl, h3.1⟩
theorem kb_pk {a : ed_VB} {M : mm_J} {key : Nat} (h : mB a M) : (∀ i, i < ed_pn a.2 → (if i = 0 then ed_pu M (ed_pn a.2) (nI key) 84 0 else if i = 1 then ed_pu M (ed_pn a.2) (nI key) 84 1 else ed_pu M (ed_pn a.2) (nI key) 84 2) = ed_pk a.2 i) ∧ (ed_pn a.2 ≤ 2 → (if ed_pn a.2 = 0 then ed_pu M (ed_pn a.2) (nI key) 84 0 else if ed_pn a.2 = 1 then ed_pu M (ed_pn a.2) (nI key) 84 1 else ed_pu M (ed_pn a.2) (nI key) 84 2) = nI key) := by
  have h0 : ed_pn a.2 ≤ 2 := by unfold ed_pn; split <;> (try split) <;> omega
  have h1 : ∀ i, i < ed_pn a.2 → ed_pu M (ed_pn a.2) (nI key) 84 i = ed_pk a.2 i := fun i hi => by
    unfold ed_pu
    rw [mm_set_o (by omega), mm_set_o (by omega)]
    exact h.2.2.2 i hi
  have h2 : ed_pu M (ed_pn a.2) (nI key) 84 (ed_pn a.2) = nI key := by
    unfold ed_pu
    rw [mm_set_o (by omega), mm_set_i]
  refine ⟨fun i hi => ?_, fun _ => ?_⟩
  · obtain rfl | rfl : i = 0 ∨ i = 1 := by omega
    · exact h1 0 hi
    · exact h1 1 hi
  · have : ed_pn a.2 = 0 ∨ ed_pn a.2 = 1 ∨ ed_pn a.2 = 2 := by omega
    rcases this with e | e | e <;> rw [e] at h2 ⊢ <;> exact h2
theorem kb_pe {M : mm_J} {d j : Nat} {key : Int32} : ed_e (ed_pu M d key) j = ed_e M j := rfl
theorem ed_CF.pd {v : ed_V} {X X0 : mm_J} {G : mm_G} (h : ed_CF v X G X0) (x : Nat) : ed_CF (v.1, v.2.1, v.2.2.1, v.2.2.2.1, v.2.2.2.2.1, v.2.2.2.2.2.1, v.2.2.2.2.2.2.1, (v.2.2.2.2.2.2.2.1, x)) (mm_set X 60 3 (nI x)) G X0 := ⟨⟨h.1.1, h.1.2.1, h.1.2.2.1, (h.1.2.2.2.1).fr (fun a _ _ => mm_set_ne _ _ _ (by omega)), (h.1.2.2.2.2.1).fr (fun a _ _ => mm_set_ne _ _ _ (by omega)), h.1.2.2.2.2.2.1, h.1.2.2.2.2.2.2.1, h.1.2.2.2.2.2.2.2.1, ⟨h.1.2.2.2.2.2.2.2.2.1, h.1.2.2.2.2.2.2.2.2.2.1, rfl⟩⟩, fun a ha => (mm_set_ne _ _ _ (by omega)).trans (h.2 a ha)⟩
theorem ed_CM.pd0 {v : ed_V} {M : mm_J} (h : ed_CM v M) {d : Nat} {key : Int32} : ed_CM (v.1, v.2.1, v.2.2.1, v.2.2.2.1, v.2.2.2.2.1, v.2.2.2.2.2.1, v.2.2.2.2.2.2.1, (v.2.2.2.2.2.2.2.1, 0)) (mm_set (ed_pu M d key) 69 29 (nI 0)) := ⟨h.1, h.2.1, h.2.2.1, h.2.2.2.1, h.2.2.2.2.1, h.2.2.2.2.2.1, h.2.2.2.2.2.2.1, ⟨h.2.2.2.2.2.2.2.1, h.2.2.2.2.2.2.2.2.1, rfl, fun i hi => absurd hi (Nat.not_lt_zero i)⟩⟩
theorem ed_CM.pd1 {v : ed_V} {M : mm_J} (h : ed_CM v M) {d x : Nat} {key : Int32} (h1 : ed_pn x = d + 1) (h2 : ∀ i, i < ed_pn x → ed_pu M d key 84 i = ed_pk x i) : ed_CM (v.1, v.2.1, v.2.2.1, v.2.2.2.1, v.2.2.2.2.1, v.2.2.2.2.2.1, v.2.2.2.2.2.2.1, (v.2.2.2.2.2.2.2.1, x)) (ed_pu M d key) := ⟨h.1, h.2.1, h.2.2.1, h.2.2.2.1, h.2.2.2.2.1, h.2.2.2.2.2.1, h.2.2.2.2.2.2.1, ⟨h.2.2.2.2.2.2.2.1, h.2.2.2.2.2.2.2.2.1, by rw [h1]; exact mm_set_i, h2⟩⟩
theorem ed_I.pd {v : ed_V} (h : ed_I v) {x : Nat} (hx : ed_vd x) : ed_I (v.1, v.2.1, v.2.2.1, v.2.2.2.1, v.2.2.2.2.1, v.2.2.2.2.2.1, v.2.2.2.2.2.2.1, (v.2.2.2.2.2.2.2.1, x)) := by
  obtain ⟨⟨h1, h2, h3, h4, h5, h6, h7, h8⟩, h9⟩ := h
  exact ⟨⟨h1, h2, h3, h4, h5, h6, h7, h8.1, h8.2.1, h8.2.2.1, h8.2.2.2.1, hx⟩, h9⟩
/-- one key on both sides -/
theorem pp_key {E : mm_E} {v : ed_V} {X : mm_J} {G : mm_G} {M : mm_J} (hX : ed_CX v X G) (hM : ed_CM v M) (hI : ed_I v) {key : Nat} (hk : key ≤ 15) : ∃ (cal : Int32) (x : Nat), (cal = -4 ∨ cal = nI 1000 ∨ ∃ k, k ≤ 21 ∧ cal = nI k) ∧ (∃ X', mm_Ret E qY_stroke [.ref 60, .int (nI key)] 86 X G (some (.int cal)) 86 X' G ∧ ed_CF (v.1, v.2.1, v.2.2.1, v.2.2.2.1, v.2.2.2.2.1, v.2.2.2.2.2.1, v.2.2.2.2.2.2.1, (v.2.2.2.2.2.2.2.1, x)) X' G X) ∧ ed_sM E qR_resolve [.ref 69, .int (nI key)] M (some (.int cal)) (v.1, v.2.1, v.2.2.1, v.2.2.2.1, v.2.2.2.2.1, v.2.2.2.2.2.1, v.2.2.2.2.2.2.1, (v.2.2.2.2.2.2.2.1, x)) ∧ ed_I (v.1, v.2.1, v.2.2.1, v.2.2.2.1, v.2.2.2.2.1, v.2.2.2.2.2.1, v.2.2.2.2.2.2.1, (v.2.2.2.2.2.2.2.1, x)) := by
  have hG := hX.1
  have hB : xB (v_B v) X := hX.2.2.2.2.2.2.2.2
  have hBm : mB (v_B v) M := hM.2.2.2.2.2.2.2
  have iB1 : iB (v_B v) := hI.1.2.2.2.2.2.2.2
  obtain ⟨l1, l2, l3, l4, l5⟩ := id iB1
  obtain ⟨r1, r2, r3⟩ := kb_row l5 hk
  obtain ⟨p1, p2⟩ := kb_pk (key := key) hBm
  replace p2 := p2 r3
  have hbd : ∀ i, i < (v_B v).1.length → X 61 i = nI (X 61 i).toNatClampNeg ∧ (X 61 i).toNatClampNeg < 5000 := fun i hi => kb_bd hB iB1 hi
  have hxi : ∀ i, i < (v_B v).1.length → ∃ e ∈ (v_B v).1, (X 61 i).toNatClampNeg = e.1 ∧ X 62 i = e.2 := fun i hi => by
    obtain ⟨e, g1, g2, g3⟩ := kb_xi hB hi
    exact ⟨e, g1, by rw [g2, nI_clamp (by have := kb_vc (l2 e g1).1; omega)], g3⟩
  have hlo : ∀ j, j < (v_B v).1.length → ∀ e ∈ (v_B v).1, ed_e M j = ed_dq e → ed_lo (ed_pu M (ed_pn (v_B v).2) (nI key)) (ed_pn (v_B v).2 + 1) j = ed_lg e.1 (ed_row (v_B v).2 key) := fun j hj e he hje => by
    have := (kb_key (n := e.2) (l2 e he).1 l5 hk p1 p2).2
    rw [← hje] at this
    rw [Bool.eq_iff_iff, ← this]
    unfold ed_lo
    rw [kb_pe, Bool.and_eq_true, decide_eq_true_eq]
  have hex : ∀ j, j < (v_B v).1.length → ∀ e ∈ (v_B v).1, ed_e M j = ed_dq e → ed_ex (ed_pu M (ed_pn (v_B v).2) (nI key)) (ed_pn (v_B v).2 + 1) j = decide (e.1 = ed_row (v_B v).2 key) := fun j hj e he hje => by
    have := (kb_key (n := e.2) (l2 e he).1 l5 hk p1 p2).1
    rw [← hje] at this
    rw [Bool.eq_iff_iff, decide_eq_true_eq, ← this]
    unfold ed_ex
    rw [kb_pe, Bool.and_eq_true, decide_eq_true_eq]
  have mxr : ∀ K : mm_J, ∀ j, ed_e (mm_mx K M) j = ed_e M j := fun K j => rfl
  by_cases hE : ∃ e ∈ (v_B v).1, e.1 = ed_row (v_B v).2 key
  · obtain ⟨e, he, hrow⟩ := hE
    obtain ⟨k, hk1, hk2⟩ := (l2 e he).2
    -- the class
    obtain ⟨i1, q1, q2, q3⟩ := kb_xe hB he
    obtain ⟨i0, h0, h1, h2⟩ := kb_least (p := fun i => decide ((X 61 i).toNatClampNeg = ed_row (v_B v).2 key)) _ ⟨i1, q1, by rw [decide_eq_true_eq, q2, nI_clamp (by have := kb_vc (l2 e he).1; omega)]; exact hrow⟩
    replace h1 : (X 61 i0).toNatClampNeg = ed_row (v_B v).2 key := of_decide_eq_true h1
    obtain ⟨e2, y1, y2, y3⟩ := hxi i0 h0
    have ee : e2 = e := kb_nd l4 y1 he (by rw [← y2, h1, hrow])
    subst ee
    have cX := sY_strokeE (E := E) hG hB.1 l1 hbd hk hB.2.2 r2 h0 h1 (fun j hj => of_decide_eq_false (h2 j hj)) (fun j hj => by
      obtain ⟨d, z1, z2, z3⟩ := hxi j hj
      show ed_lg (X 61 j).toNatClampNeg (ed_row (v_B v).2 key) = false
      rw [z2, ← hrow]
      exact l3 d z1 e2 he)
    rw [y3] at cX
    -- the reference
    obtain ⟨j1, u1, u2⟩ := kb_me hBm he
    obtain ⟨j0, g0, g1, g2⟩ := kb_least (p := fun j => ed_ex (ed_pu M (ed_pn (v_B v).2) (nI key)) (ed_pn (v_B v).2 + 1) j) _ ⟨j1, u1, by rw [hex j1 u1 e2 he u2]; exact decide_eq_true hrow⟩
    obtain ⟨e3, f1, f2⟩ := kb_mi hBm g0
    have e32 : e3 = e2 := kb_nd l4 f1 he (by
      rw [hex j0 g0 e3 f1 f2] at g1
      rw [of_decide_eq_true g1, hrow])
    subst e32
    have hc : M 83 j0 = e3.2 := congrArg (fun q : ed_Q => q.2.2.2) f2
    refine ⟨e3.2, 0, Or.inr (Or.inr ⟨k, hk1, hk2⟩), ⟨_, cX, (ed_CF.rf hX).pd 0⟩, ⟨_, hM.pd0 (d := ed_pn (v_B v).2) (key := nI key), fun K GM hGM => ?_⟩, hI.pd (Or.inl rfl)⟩
    have c := sR_resolveE (E := E) (J := mm_mx K M) hGM hBm.1 l1 hBm.2.2.1 r3 g0 (by rw [mx_pu]; exact g1) (fun j hj => by rw [mx_pu]; exact g2 j hj)
    rw [mx_pu, mx_set (by decide), show mm_mx K M 83 j0 = M 83 j0 from rfl, hc] at c
    exact c
  · have hne : ∀ e ∈ (v_B v).1, ¬ e.1 = ed_row (v_B v).2 key := fun e he q => hE ⟨e, he, q⟩
    have cX := sY_strokeN (E := E) hG hB.1 l1 hbd hk hB.2.2 r2 (fun j hj => by
      obtain ⟨d, z1, z2, z3⟩ := hxi j hj
      show ¬ (X 61 j).toNatClampNeg = _
      rw [z2]
      exact hne d z1)
    have hexM : ∀ j, j < (v_B v).1.length → ed_ex (ed_pu M (ed_pn (v_B v).2) (nI key)) (ed_pn (v_B v).2 + 1) j = false := fun j hj => by
      obtain ⟨d, z1, z2⟩ := kb_mi hBm hj
      rw [hex j hj d z1 z2]
      exact decide_eq_false (hne d z1)
    have cM : ∀ K GM, mm_GI GM → _ := fun K GM (hGM : mm_GI GM) => sR_resolveN (E := E) (J := mm_mx K M) hGM hBm.1 l1 hBm.2.2.1 r3 (key := nI key) (fun j hj => by rw [mx_pu]; exact hexM j hj)
    by_cases hL : ∃ e ∈ (v_B v).1, ed_lg e.1 (ed_row (v_B v).2 key) = true
    · obtain ⟨e, he, hl⟩ := hL
      obtain ⟨w1, w2, w3, w4⟩ := kb_pend l5 hk hl
      obtain ⟨i1, q1, q2, q3⟩ := kb_xe hB he
      obtain ⟨j1, u1, u2⟩ := kb_me hBm he
      rw [kb_sk1 _ _ (Nat.le_refl _) ⟨i1, by omega, q1, by
        show ed_lg (X 61 i1).toNatClampNeg _ = true
        rw [q2, nI_clamp (by have := kb_vc (l2 e he).1; omega)]
        exact hl⟩, if_neg (by omega)] at cX
      refine ⟨nI 1000, ed_row (v_B v).2 key, Or.inr (Or.inl rfl), ⟨_, cX, (ed_CF.rf hX).pd _⟩, ⟨_, hM.pd1 (d := ed_pn (v_B v).2) (key := nI key) w2 (fun i hi => ?_), fun K GM hGM => ?_⟩, hI.pd w1⟩
      · by_cases hi2 : i < ed_pn (v_B v).2
        · rw [w3 i hi2]
          unfold ed_pu
          rw [mm_set_o (by omega), mm_set_o (by omega)]
          exact hBm.2.2.2 i hi2
        · obtain rfl : i = ed_pn (v_B v).2 := by omega
          rw [w4]
          unfold ed_pu
          rw [mm_set_o (by omega), mm_set_i]
      · have c := cM K GM hGM
        rw [mx_pu] at c
        rw [kb_rv1 _ _ (Nat.le_refl _) ⟨j1, by omega, u1, by
          show ed_lo (ed_pu M (ed_pn (v_B v).2) (nI key)) (ed_pn (v_B v).2 + 1) j1 = true
          rw [hlo j1 u1 e he u2]
          exact hl⟩, if_neg (by decide), if_neg (by decide)] at c
        exact c
    · have hnl : ∀ e ∈ (v_B v).1, ed_lg e.1 (ed_row (v_B v).2 key) = false := fun e he => by
        cases hx : ed_lg e.1 (ed_row (v_B v).2 key) with
        | false => rfl
        | true => exact absurd ⟨e, he, hx⟩ hL
      rw [kb_sk0 _ _ (Nat.le_refl _) (fun j hj => by
        obtain ⟨d, z1, z2, z3⟩ := hxi j hj
        show ed_lg (X 61 j).toNatClampNeg _ = false
        rw [z2]
        exact hnl d z1), if_pos rfl] at cX
      refine ⟨-4, 0, Or.inl rfl, ⟨_, cX, (ed_CF.rf hX).pd 0⟩, ⟨_, hM.pd0 (d := ed_pn (v_B v).2) (key := nI key), fun K GM hGM => ?_⟩, hI.pd (Or.inl rfl)⟩
      have c := cM K GM hGM
      rw [mx_pu] at c
      rw [kb_rv0 _ _ (Nat.le_refl _) (fun j hj => by
        obtain ⟨d, z1, z2⟩ := kb_mi hBm hj
        show ed_lo (ed_pu M (ed_pn (v_B v).2) (nI key)) (ed_pn (v_B v).2 + 1) j = false
        rw [hlo j hj d z1 z2]
        exact hnl d z1), if_pos rfl, if_pos rfl, mx_set (by decide)] at c
      exact c
