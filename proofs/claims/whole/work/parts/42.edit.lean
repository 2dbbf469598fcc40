def ed_te (tx fr : Nat → Int32) (p d s : Nat) : Nat → Int32 := fun i => if i < p then tx i else if i < p + s then fr (i - p) else tx (i - s + d)
def ed_u {α : Type} (f : Nat → α) (k : Nat) (x : α) : Nat → α := fun j => if j = k then x else f j
theorem ed_u_y {α : Type} {f : Nat → α} {k : Nat} {x : α} : ed_u f k x k = x := if_pos rfl
theorem ed_u_n {α : Type} {f : Nat → α} {k j : Nat} {x : α} (h : ¬ j = k) : ed_u f k x j = f j := if_neg h
theorem xS.fr {a : ed_VS} {X X' : mm_J} (h : xS a X) (e : X' 0 = X 0) : xS a X' := by
  unfold xS at *
  rw [e]
  exact h
theorem xE.fr {a : ed_VE} {X X' : mm_J} (h : xE a X) (e : X' 63 = X 63) (e2 : X' 64 = X 64) (e3 : X' 65 = X 65) : xE a X' := by
  unfold xE at *
  rw [e, e2, e3]
  exact h
theorem xN.fr {a : ed_VN} {X X' : mm_J} (h : xN a X) (e : X' 66 = X 66) : xN a X' := by
  unfold xN at *
  rw [e]
  exact h
theorem xB.fr {a : ed_VB} {X X' : mm_J} (h : xB a X) (e : X' 60 = X 60) (e2 : X' 61 = X 61) (e3 : X' 62 = X 62) : xB a X' := by
  unfold xB ed_L at *
  rw [e, e2, e3]
  exact h
theorem ed_ed_f {J : mm_J} {x n m p d s a : Nat} (h : ¬ a = 2 ∧ ¬ a = 3 ∧ ¬ a = 4 ∧ ¬ (16 ≤ a ∧ a < 60)) : ed_ed J x n m p d s a = J a := by
  funext b
  exact ed_ed_o h
theorem ed_rp_f {J : mm_J} {x n p d s a : Nat} (h : ¬ a = 2 ∧ ¬ a = 3 ∧ ¬ a = 4) : ed_rp J x n p d s a = J a := by
  funext b
  exact ed_rp_o h
theorem ed_st_f {J : mm_J} {m p d s a : Nat} (h : ¬ a = 16 ∧ ¬ a = 17 ∧ ¬ a = 18 ∧ ¬ (20 ≤ a ∧ a < 60)) : ed_st J m p d s a = J a := by
  funext b
  exact ed_st_o h
/-- the class's text after a replacement -/
theorem ed_rp_3 {J : mm_J} {x n p d s i : Nat} {tx fr : Nat → Int32} (hx : 8 ≤ x) (hpd : p + d ≤ n) (htx : ∀ i, i < n → J 3 i = tx i) (hfr : ∀ i, i < s → J (x + 1) i = fr i) (hi : i < n - d + s) : ed_rp J x n p d s 3 i = ed_te tx fr p d s i := by
  have e : ed_rp J x n p d s 3 = va_cpy (J (x + 1)) (va_cpy (J 3) (J 3) (p + d) (p + s) (n - (p + d))) 0 p s := by
    funext b
    show mm_cp (mm_cp J 3 3 (p + d) (p + s) (n - (p + d))) (x + 1) 3 0 p s 3 b = _
    rw [mm_cp_at, mm_cp_at, mm_cp_ne _ _ _ _ (show x + 1 ≠ 3 by omega)]
  rw [e]
  unfold ed_te
  by_cases h1 : i < p
  · rw [if_pos h1, va_cpy_n (Or.inl h1), va_cpy_n (Or.inl (by omega))]
    exact htx i (by omega)
  · rw [if_neg h1]
    by_cases h2 : i < p + s
    · rw [if_pos h2, va_cpy_y (by omega) h2, Nat.zero_add]
      exact hfr _ (by omega)
    · rw [if_neg h2, va_cpy_n (Or.inr (by omega)), va_cpy_y (by omega) (by omega), show p + d + (i - (p + s)) = i - s + d by omega]
      exact htx _ (by omega)
theorem ed_rp_4 {J : mm_J} {x n p d s i : Nat} (hi : i < 5) : ed_rp J x n p d s 4 i = ed_pm (J 4 i) (J 5 i) p d s := by
  show (if 4 = 4 ∧ i < 5 then _ else _) = _
  rw [if_pos ⟨rfl, hi⟩]
  rfl
/-- the reference's text after an edit -/
theorem ed_Re_70 {J : mm_J} {n p d s i : Nat} {tx fr : Nat → Int32} (hpd : p + d ≤ n) (htx : ∀ i, i < n → J 70 i = tx i) (hfr : ∀ i, i < s → J 72 i = fr i) (hi : i < n - d + s) : ed_Re J n p d s 70 i = ed_te tx fr p d s i := by
  show (if 70 = 70 ∧ p ≤ i ∧ i < n - d + s then (if i < p + s then J 72 (i - p) else va_cpy (J 70) (J 71) 0 0 n (i - s + d)) else J 70 i) = _
  unfold ed_te
  by_cases h1 : i < p
  · rw [if_pos h1, if_neg (by omega)]
    exact htx i (by omega)
  · rw [if_neg h1, if_pos (by omega)]
    by_cases h2 : i < p + s
    · rw [if_pos h2, if_pos h2]
      exact hfr _ (by omega)
    · rw [if_neg h2, if_neg h2, va_cpy_y (by omega) (by omega), Nat.zero_add, Nat.sub_zero]
      exact htx _ (by omega)
theorem ed_RS_70 {J : mm_J} {n m p d s i : Nat} {tx fr : Nat → Int32} (hpd : p + d ≤ n) (htx : ∀ i, i < n → J 70 i = tx i) (hfr : ∀ i, i < s → J 72 i = fr i) (hi : i < n - d + s) : ed_RS J n m p d s 70 i = ed_te tx fr p d s i := ed_Re_70 (J := ed_Rs J n m p d s) hpd htx hfr hi
/-- the slots after a step -/
theorem ed_st_17 {J : mm_J} {m p d s j : Nat} : ed_st J m p d s 17 j = if j = (m + 1) % 20 then nI p else J 17 j := by
  unfold ed_st
  rw [mm_set_o (by omega), mm_cp_ne _ _ _ _ (by omega), mm_set_o (by omega), mm_set_o (by omega)]
  unfold mm_set
  simp
theorem ed_st_18 {J : mm_J} {m p d s j : Nat} : ed_st J m p d s 18 j = if j = (m + 1) % 20 then nI s else J 18 j := by
  unfold ed_st
  rw [mm_set_o (by omega), mm_cp_ne _ _ _ _ (by omega), mm_set_o (by omega)]
  unfold mm_set
  simp
theorem ed_st_16 {J : mm_J} {m p d s : Nat} : ed_st J m p d s 16 3 = nI (m + 1) := by
  unfold ed_st
  rw [mm_set_o (by omega), mm_cp_ne _ _ _ _ (by omega), mm_set_o (by omega), mm_set_o (by omega), mm_set_o (by omega), mm_set_i]
theorem ed_st_20 {J : mm_J} {m p d s j : Nat} (hj : j < 20) : ed_st J m p d s (20 + 2 * j) 1 = if j = (m + 1) % 20 then nI d else J (20 + 2 * j) 1 := by
  unfold ed_st
  by_cases h : j = (m + 1) % 20
  · rw [if_pos h, h, mm_set_i]
  · rw [if_neg h, mm_set_o (by omega), mm_cp_ne _ _ _ _ (by omega), mm_set_o (by omega), mm_set_o (by omega), mm_set_o (by omega), mm_set_o (by omega)]
theorem ed_st_21y {J : mm_J} {m p d s j i : Nat} (h : j = (m + 1) % 20) (hi : i < d) : ed_st J m p d s (20 + 2 * j + 1) i = J 3 (p + i) := by
  unfold ed_st
  rw [h, mm_set_o (by omega), mm_cp_at, va_cpy_y (by omega) (by omega), mm_set_o (by omega), mm_set_o (by omega), mm_set_o (by omega), mm_set_o (by omega), Nat.sub_zero]
theorem ed_st_21n {J : mm_J} {m p d s j i : Nat} (hj : j < 20) (h : ¬ j = (m + 1) % 20) : ed_st J m p d s (20 + 2 * j + 1) i = J (20 + 2 * j + 1) i := by
  unfold ed_st
  rw [mm_set_o (by omega), mm_cp_ne _ _ _ _ (by omega), mm_set_o (by omega), mm_set_o (by omega), mm_set_o (by omega), mm_set_o (by omega)]

def ed_vE (v : ed_V) (fr : Nat → Int32) (p d s : Nat) : ed_V := ((v_n v - d + s, ed_te (v_tx v) fr p d s, v.1.2.2), (ed_pm (v_mk v) (nI 0) p d s, fun i => ed_pm (v_mr v i) (v_fo v i) p d s, v.2.1.2.2), v.2.2.1, (v_m v + 1, ed_u (v_sa v) ((v_m v + 1) % 20) p, ed_u (v_sp v) ((v_m v + 1) % 20) s, ed_u (v_st v) ((v_m v + 1) % 20) d, ed_u (v_sb v) ((v_m v + 1) % 20) (v_n v), ed_u (v_sx v) ((v_m v + 1) % 20) (fun i => v_tx v (p + i))), v.2.2.2.2.1, v.2.2.2.2.2.1, v.2.2.2.2.2.2.1, v.2.2.2.2.2.2.2)
/-- an insertion that joins the latest step -/
def ed_vJ (v : ed_V) (fr : Nat → Int32) (p d s : Nat) : ed_V := ((v_n v - d + s, ed_te (v_tx v) fr p d s, v.1.2.2), (ed_pm (v_mk v) (nI 0) p d s, fun i => ed_pm (v_mr v i) (v_fo v i) p d s, v.2.1.2.2), v.2.2.1, (v.2.2.2.1.1, v.2.2.2.1.2.1, ed_u (v_sp v) (v_m v % 20) (v_sp v (v_m v % 20) + s), v.2.2.2.1.2.2.2.1, v.2.2.2.1.2.2.2.2.1, v.2.2.2.1.2.2.2.2.2), v.2.2.2.2.1, v.2.2.2.2.2.1, v.2.2.2.2.2.2.1, v.2.2.2.2.2.2.2)
theorem ed_CF.edit {v : ed_V} {X X0 : mm_J} {G : mm_G} (h : ed_CF v X G X0) {x p d s : Nat} {fr : Nat → Int32} (hx : 8 ≤ x ∧ (x ≤ 14 ∨ x = 67)) (hfr : ∀ i, i < s → X (x + 1) i = fr i) (hpd : p + d ≤ v_n v) : ed_CF (ed_vE v fr p d s) (ed_ed X x (v_n v) (v_m v) p d s) G X0 := by
  obtain ⟨⟨hG, ⟨a1, a2, a3⟩, ⟨p1, p2, p3, p4⟩, hK, ⟨s1, s2⟩, hS, hE, hN, hB⟩, hf⟩ := h
  refine ⟨⟨hG, ⟨rfl, fun i hi => ?_, ?_⟩, ⟨?_, fun i hi => ?_, ?_, fun i hi => ?_⟩, hK.fr (fun a _ _ => ed_ed_f (by omega)), ⟨?_, fun j hj => ⟨?_, ?_, ?_, fun i hi => ?_⟩⟩, hS.fr (ed_ed_f (by decide)), hE.fr (ed_ed_f (by decide)) (ed_ed_f (by decide)) (ed_ed_f (by decide)), hN.fr (ed_ed_f (by decide)), hB.fr (ed_ed_f (by decide)) (ed_ed_f (by decide)) (ed_ed_f (by decide))⟩, fun a ha => (ed_ed_f (by omega)).trans (hf a ha)⟩
  · exact ed_rp_3 hx.1 hpd (fun i hi => by rw [ed_st_f (by decide)]; exact a2 i hi) (fun i hi => by rw [ed_st_f (by omega)]; exact hfr i hi) hi
  · exact (congrFun (ed_ed_f (by decide)) 3).trans a3
  · exact (ed_rp_4 (by decide)).trans (by rw [ed_st_f (by decide), ed_st_f (by decide), p1, p3]; rfl)
  · exact (ed_rp_4 (by omega)).trans (by rw [ed_st_f (by decide), ed_st_f (by decide), p2 i hi, p4 i hi]; rfl)
  · exact (congrFun (ed_ed_f (by decide)) 4).trans p3
  · exact (congrFun (ed_ed_f (by decide)) i).trans (p4 i hi)
  · exact (congrFun (ed_rp_f (by decide)) 3).trans ed_st_16
  · refine (congrFun (ed_rp_f (by decide)) j).trans (ed_st_17.trans ?_)
    show _ = nI (ed_u (v_sa v) ((v_m v + 1) % 20) p j)
    unfold ed_u
    split
    · rfl
    · exact (s2 j hj).1
  · refine (congrFun (ed_rp_f (by decide)) j).trans (ed_st_18.trans ?_)
    show _ = nI (ed_u (v_sp v) ((v_m v + 1) % 20) s j)
    unfold ed_u
    split
    · rfl
    · exact (s2 j hj).2.1
  · refine (congrFun (ed_rp_f (by omega)) 1).trans ((ed_st_20 hj).trans ?_)
    show _ = nI (ed_u (v_st v) ((v_m v + 1) % 20) d j)
    unfold ed_u
    split
    · rfl
    · exact (s2 j hj).2.2.1
  · replace hi : i < ed_u (v_st v) ((v_m v + 1) % 20) d j := hi
    show _ = ed_u (v_sx v) ((v_m v + 1) % 20) (fun i => v_tx v (p + i)) j i
    refine (congrFun (ed_rp_f (by omega)) i).trans ?_
    by_cases hk : j = (v_m v + 1) % 20
    · rw [hk, ed_u_y] at hi
      rw [ed_st_21y hk hi, hk, ed_u_y]
      exact a2 (p + i) (Nat.lt_of_lt_of_le (by omega) hpd)
    · rw [ed_u_n hk] at hi
      rw [ed_st_21n hj hk, ed_u_n hk]
      exact (s2 j hj).2.2.2 i hi
/-- the same on the other side -/
theorem ed_CM.edit {v : ed_V} {M : mm_J} (h : ed_CM v M) {p d s : Nat} {fr : Nat → Int32} (hfr : ∀ i, i < s → M 72 i = fr i) (hn : v_n v ≤ 100) (hpd : p + d ≤ v_n v) (hb : ∀ j, j < 20 → v_sa v j + v_st v j ≤ 100) : ed_CM (ed_vE v fr p d s) (ed_RS M (v_n v) (v_m v) p d s) := by
  obtain ⟨⟨a1, a2, a3⟩, ⟨p1, p2, p3⟩, hK, ⟨s1, s2⟩, hS, hE, hN, hB⟩ := h
  refine ⟨⟨rfl, fun i hi => ?_, a3⟩, ⟨?_, fun i hi => ?_, p3⟩, hK, ⟨rfl, fun j hj => ⟨?_, ?_, ?_, fun i hi => ?_⟩⟩, hS, hE, hN, hB⟩
  · exact ed_RS_70 hpd a2 hfr hi
  · show ed_pm (M 69 6) (nI 0) p d s = _
    rw [p1]
    rfl
  · show (if 73 = 73 ∧ i < 4 then ed_pm (M 73 i) (M 74 i) p d s else _) = _
    rw [if_pos ⟨rfl, hi⟩, p2 i hi, p3 i hi]
    rfl
  · show mm_set _ 79 ((v_m v + 1) % 20) (nI p) 79 j = nI (ed_u (v_sa v) ((v_m v + 1) % 20) p j)
    by_cases hk : j = (v_m v + 1) % 20
    · rw [hk, ed_u_y, mm_set_i]
    · rw [ed_u_n hk, mm_set_o (by omega)]
      exact (s2 j hj).1
  · show mm_set _ 81 ((v_m v + 1) % 20) (nI s) 81 j = nI (ed_u (v_sp v) ((v_m v + 1) % 20) s j)
    by_cases hk : j = (v_m v + 1) % 20
    · rw [hk, ed_u_y, mm_set_i]
    · rw [ed_u_n hk, mm_set_o (by omega)]
      exact (s2 j hj).2.1
  · show mm_set _ 80 ((v_m v + 1) % 20) (nI d) 80 j = nI (ed_u (v_st v) ((v_m v + 1) % 20) d j)
    by_cases hk : j = (v_m v + 1) % 20
    · rw [hk, ed_u_y, mm_set_i]
    · rw [ed_u_n hk, mm_set_o (by omega)]
      exact (s2 j hj).2.2.1
  · replace hi : i < ed_u (v_st v) ((v_m v + 1) % 20) d j := hi
    show va_cpy (M 70) (M 77) 0 ((v_m v + 1) % 20 * 100) (v_n v) (j * 100 + ed_u (v_sa v) ((v_m v + 1) % 20) p j + i) = ed_u (v_sx v) ((v_m v + 1) % 20) (fun i => v_tx v (p + i)) j i
    by_cases hk : j = (v_m v + 1) % 20
    · rw [hk, ed_u_y] at hi
      rw [hk, ed_u_y, ed_u_y, va_cpy_y (by omega) (by omega), show 0 + ((v_m v + 1) % 20 * 100 + p + i - (v_m v + 1) % 20 * 100) = p + i by omega]
      exact a2 (p + i) (Nat.lt_of_lt_of_le (by omega) hpd)
    · rw [ed_u_n hk] at hi
      have := hb j hj
      rw [ed_u_n hk, ed_u_n hk, va_cpy_n (by omega)]
      exact (s2 j hj).2.2.2 i hi
theorem ed_CF.joined {v : ed_V} {X X0 : mm_J} {G : mm_G} (h : ed_CF v X G X0) {x p d s : Nat} {fr : Nat → Int32} (hx : 8 ≤ x ∧ (x ≤ 14 ∨ x = 67)) (hfr : ∀ i, i < s → X (x + 1) i = fr i) (hpd : p + d ≤ v_n v) : ed_CF (ed_vJ v fr p d s) (ed_rp (mm_set X 18 (v_m v % 20) (nI (v_sp v (v_m v % 20) + s))) x (v_n v) p d s) G X0 := by
  obtain ⟨⟨hG, ⟨a1, a2, a3⟩, ⟨p1, p2, p3, p4⟩, hK, ⟨s1, s2⟩, hS, hE, hN, hB⟩, hf⟩ := h
  have hm : v_m v % 20 < 20 := Nat.mod_lt _ (by decide)
  refine ⟨⟨hG, ⟨rfl, fun i hi => ?_, ?_⟩, ⟨?_, fun i hi => ?_, ?_, fun i hi => ?_⟩, hK.fr (fun a _ _ => (ed_rp_f (by omega)).trans (mm_set_ne _ _ _ (by omega))), ⟨?_, fun j hj => ⟨?_, ?_, ?_, fun i hi => ?_⟩⟩, hS.fr (ed_rp_f (by decide)), hE.fr (ed_rp_f (by decide)) (ed_rp_f (by decide)) (ed_rp_f (by decide)), hN.fr (ed_rp_f (by decide)), hB.fr (ed_rp_f (by decide)) (ed_rp_f (by decide)) (ed_rp_f (by decide))⟩, fun a ha => ((ed_rp_f (by omega)).trans (mm_set_ne _ _ _ (by omega))).trans (hf a ha)⟩
  · exact ed_rp_3 hx.1 hpd (fun i hi => a2 i hi) (fun i hi => by rw [mm_set_ne _ _ _ (by omega)]; exact hfr i hi) hi
  · exact (congrFun (ed_rp_f (by decide)) 3).trans a3
  · exact (ed_rp_4 (by decide)).trans (by rw [mm_set_ne _ _ _ (by decide), mm_set_ne _ _ _ (by decide), p1, p3]; rfl)
  · exact (ed_rp_4 (by omega)).trans (by rw [mm_set_ne _ _ _ (by decide), mm_set_ne _ _ _ (by decide), p2 i hi, p4 i hi]; rfl)
  · exact (congrFun (ed_rp_f (by decide)) 4).trans p3
  · exact (congrFun (ed_rp_f (by decide)) i).trans (p4 i hi)
  · exact (congrFun (ed_rp_f (by decide)) 3).trans s1
  · exact (congrFun (ed_rp_f (by decide)) j).trans (s2 j hj).1
  · refine (congrFun (ed_rp_f (by decide)) j).trans ?_
    show _ = nI (ed_u (v_sp v) (v_m v % 20) (v_sp v (v_m v % 20) + s) j)
    by_cases hk : j = v_m v % 20
    · rw [hk, ed_u_y, mm_set_i]
    · rw [ed_u_n hk, mm_set_o (by omega)]
      exact (s2 j hj).2.1
  · exact (congrFun (ed_rp_f (by omega)) 1).trans ((congrFun (mm_set_ne _ _ _ (by omega)) 1).trans (s2 j hj).2.2.1)
  · exact (congrFun (ed_rp_f (by omega)) i).trans ((congrFun (mm_set_ne _ _ _ (by omega)) i).trans ((s2 j hj).2.2.2 i hi))
theorem ed_CM.joined {v : ed_V} {M : mm_J} (h : ed_CM v M) {p d s : Nat} {fr : Nat → Int32} (hfr : ∀ i, i < s → M 72 i = fr i) (hpd : p + d ≤ v_n v) : ed_CM (ed_vJ v fr p d s) (ed_Re (mm_set M 81 (v_m v % 20) (nI (v_sp v (v_m v % 20) + s))) (v_n v) p d s) := by
  obtain ⟨⟨a1, a2, a3⟩, ⟨p1, p2, p3⟩, hK, ⟨s1, s2⟩, hS, hE, hN, hB⟩ := h
  refine ⟨⟨rfl, fun i hi => ?_, a3⟩, ⟨?_, fun i hi => ?_, p3⟩, hK, ⟨s1, fun j hj => ⟨(s2 j hj).1, ?_, (s2 j hj).2.2.1, fun i hi => (s2 j hj).2.2.2 i hi⟩⟩, hS, hE, hN, hB⟩
  · exact ed_Re_70 hpd (fun i hi => a2 i hi) (fun i hi => hfr i hi) hi
  · show ed_pm (M 69 6) (nI 0) p d s = _
    rw [p1]
    rfl
  · show (if 73 = 73 ∧ i < 4 then ed_pm (M 73 i) (M 74 i) p d s else _) = _
    rw [if_pos ⟨rfl, hi⟩, p2 i hi, p3 i hi]
    rfl
  · show mm_set _ 81 (v_m v % 20) (nI (v_sp v (v_m v % 20) + s)) 81 j = nI (ed_u (v_sp v) (v_m v % 20) (v_sp v (v_m v % 20) + s) j)
    by_cases hk : j = v_m v % 20
    · rw [hk, ed_u_y, mm_set_i]
    · rw [ed_u_n hk, mm_set_o (by omega)]
      exact (s2 j hj).2.1
/-- the invariants after an edit -/
theorem iH.edit {n : Nat} {a : ed_VH} (h : iH n a) {p d s : Nat} (hn : n ≤ 100) (hpd : p + d ≤ n) (hs : n - d + s ≤ 100) (tx : Nat → Int32) : iH (n - d + s) (a.1 + 1, ed_u a.2.1 ((a.1 + 1) % 20) p, ed_u a.2.2.1 ((a.1 + 1) % 20) s, ed_u a.2.2.2.1 ((a.1 + 1) % 20) d, ed_u a.2.2.2.2.1 ((a.1 + 1) % 20) n, ed_u a.2.2.2.2.2 ((a.1 + 1) % 20) tx) := by
  obtain ⟨h1, h2, h3⟩ := h
  refine ⟨fun j hj => ?_, fun _ => ?_, fun u u1 u2 u3 => ?_⟩
  · dsimp only
    by_cases hk : j = (a.1 + 1) % 20
    · rw [hk, ed_u_y, ed_u_y, ed_u_y, ed_u_y]
      omega
    · rw [ed_u_n hk, ed_u_n hk, ed_u_n hk, ed_u_n hk]
      exact h1 j hj
  · dsimp only
    rw [ed_u_y, ed_u_y, ed_u_y, ed_u_y]
    omega
  · dsimp only at u1 u2 u3 ⊢
    rw [ed_u_n (show ¬ u % 20 = (a.1 + 1) % 20 by omega), ed_u_n (show ¬ u % 20 = (a.1 + 1) % 20 by omega), ed_u_n (show ¬ u % 20 = (a.1 + 1) % 20 by omega), ed_u_n (show ¬ u % 20 = (a.1 + 1) % 20 by omega)]
    by_cases hu : u = a.1
    · subst hu
      rw [ed_u_y]
      exact h2 u1
    · rw [ed_u_n (show ¬ (u + 1) % 20 = (a.1 + 1) % 20 by omega)]
      exact h3 u u1 (by omega) (by omega)
theorem iH.joined {n : Nat} {a : ed_VH} (h : iH n a) {s : Nat} (hs : a.2.2.1 (a.1 % 20) + s ≤ 100) : iH (n - 0 + s) (a.1, a.2.1, ed_u a.2.2.1 (a.1 % 20) (a.2.2.1 (a.1 % 20) + s), a.2.2.2) := by
  obtain ⟨h1, h2, h3⟩ := h
  refine ⟨fun j hj => ?_, fun hm => ?_, fun u u1 u2 u3 => ?_⟩
  · dsimp only
    have := h1 j hj
    by_cases hk : j = a.1 % 20
    · rw [hk, ed_u_y]
      rw [hk] at this
      omega
    · rw [ed_u_n hk]
      exact this
  · dsimp only
    rw [ed_u_y]
    have := h2 hm
    omega
  · dsimp only at u1 u2 u3 ⊢
    rw [ed_u_n (show ¬ u % 20 = a.1 % 20 by omega)]
    exact h3 u u1 u2 u3
theorem iP.edit {n : Nat} {a : ed_VP} (h : iP n a) {p d s : Nat} (hn : n ≤ 100) (hpd : p + d ≤ n) : iP (n - d + s) (ed_pm a.1 (nI 0) p d s, (fun i => ed_pm (a.2.1 i) (a.2.2 i) p d s), a.2.2) :=
  ⟨h.1.mv hn hpd, fun i hi => ⟨(h.2 i hi).1.mv hn hpd, (h.2 i hi).2⟩⟩
