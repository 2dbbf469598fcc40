/-! the state that both show -/
abbrev ed_VA : Type := Nat × (Nat → Int32) × Nat
abbrev ed_VP : Type := Int32 × (Nat → Int32) × (Nat → Int32)
abbrev ed_VK : Type := Nat × (Nat → Nat) × (Nat → Nat → Int32)
abbrev ed_VH : Type := Nat × (Nat → Nat) × (Nat → Nat) × (Nat → Nat) × (Nat → Nat) × (Nat → Nat → Int32)
abbrev ed_VS : Type := Nat × Int32 × Nat × Nat × Nat × Nat × Nat
abbrev ed_VE : Type := Nat × Nat × (Nat → Bool) × (Nat → Int32)
abbrev ed_VN : Type := Nat × Nat × Nat
abbrev ed_VB : Type := (List (Nat × Int32)) × Nat
abbrev ed_V : Type := ed_VA × ed_VP × ed_VK × ed_VH × ed_VS × ed_VE × ed_VN × ed_VB
abbrev v_A (v : ed_V) : ed_VA := v.1
abbrev v_n (v : ed_V) : Nat := v.1.1
abbrev v_tx (v : ed_V) : (Nat → Int32) := v.1.2.1
abbrev v_q (v : ed_V) : Nat := v.1.2.2
abbrev v_P (v : ed_V) : ed_VP := v.2.1
abbrev v_mk (v : ed_V) : Int32 := v.2.1.1
abbrev v_mr (v : ed_V) : (Nat → Int32) := v.2.1.2.1
abbrev v_fo (v : ed_V) : (Nat → Int32) := v.2.1.2.2
abbrev v_K (v : ed_V) : ed_VK := v.2.2.1
abbrev v_kc (v : ed_V) : Nat := v.2.2.1.1
abbrev v_kl (v : ed_V) : (Nat → Nat) := v.2.2.1.2.1
abbrev v_kt (v : ed_V) : (Nat → Nat → Int32) := v.2.2.1.2.2
abbrev v_H (v : ed_V) : ed_VH := v.2.2.2.1
abbrev v_m (v : ed_V) : Nat := v.2.2.2.1.1
abbrev v_sa (v : ed_V) : (Nat → Nat) := v.2.2.2.1.2.1
abbrev v_sp (v : ed_V) : (Nat → Nat) := v.2.2.2.1.2.2.1
abbrev v_st (v : ed_V) : (Nat → Nat) := v.2.2.2.1.2.2.2.1
abbrev v_sb (v : ed_V) : (Nat → Nat) := v.2.2.2.1.2.2.2.2.1
abbrev v_sx (v : ed_V) : (Nat → Nat → Int32) := v.2.2.2.1.2.2.2.2.2
abbrev v_S (v : ed_V) : ed_VS := v.2.2.2.2.1
abbrev v_t (v : ed_V) : Nat := v.2.2.2.2.1.1
abbrev v_l (v : ed_V) : Int32 := v.2.2.2.2.1.2.1
abbrev v_g (v : ed_V) : Nat := v.2.2.2.2.1.2.2.1
abbrev v_y (v : ed_V) : Nat := v.2.2.2.2.1.2.2.2.1
abbrev v_ud (v : ed_V) : Nat := v.2.2.2.2.1.2.2.2.2.1
abbrev v_ya (v : ed_V) : Nat := v.2.2.2.2.1.2.2.2.2.2.1
abbrev v_yl (v : ed_V) : Nat := v.2.2.2.2.1.2.2.2.2.2.2
abbrev v_E (v : ed_V) : ed_VE := v.2.2.2.2.2.1
abbrev v_z (v : ed_V) : Nat := v.2.2.2.2.2.1.1
abbrev v_rc (v : ed_V) : Nat := v.2.2.2.2.2.1.2.1
abbrev v_ek (v : ed_V) : (Nat → Bool) := v.2.2.2.2.2.1.2.2.1
abbrev v_ec (v : ed_V) : (Nat → Int32) := v.2.2.2.2.2.1.2.2.2
abbrev v_N (v : ed_V) : ed_VN := v.2.2.2.2.2.2.1
abbrev v_c (v : ed_V) : Nat := v.2.2.2.2.2.2.1.1
abbrev v_w (v : ed_V) : Nat := v.2.2.2.2.2.2.1.2.1
abbrev v_f (v : ed_V) : Nat := v.2.2.2.2.2.2.1.2.2
abbrev v_B (v : ed_V) : ed_VB := v.2.2.2.2.2.2.2
abbrev v_bs (v : ed_V) : (List (Nat × Int32)) := v.2.2.2.2.2.2.2.1
abbrev v_pd (v : ed_V) : Nat := v.2.2.2.2.2.2.2.2
def ed_kx (r : Nat) : Prop := r = 8 ∨ r = 10 ∨ r = 12 ∨ r = 14
theorem ed_kx.sh {r : Nat} (h : ed_kx r) : mm_SH r = .inl 2 ∧ 8 ≤ r ∧ r ≤ 14 := by
  rcases h with rfl | rfl | rfl | rfl <;> exact ⟨rfl, by decide, by decide⟩
def ed_ce (e : Nat × Int32) : Int32 × Int32 := (nI e.1, e.2)
def ed_dq (e : Nat × Int32) : ed_Q := (nI (e.1 / 289) - nI 1, nI (e.1 / 17 % 17) - nI 1, nI (e.1 % 17) - nI 1, e.2)
def ed_pn (pd : Nat) : Nat := if pd = 0 then 0 else if pd % 289 = 0 then 1 else 2
def ed_pk (pd i : Nat) : Int32 := if i = 0 then nI (pd / 289) - nI 1 else nI (pd / 17 % 17) - nI 1
def ed_vc (r : Nat) : Prop := ∃ a b d, a ≤ 15 ∧ b ≤ 16 ∧ d ≤ 16 ∧ (b = 0 → d = 0) ∧ r = (a + 1) * 289 + b * 17 + d
def ed_vd (r : Nat) : Prop := r = 0 ∨ (∃ a, a ≤ 15 ∧ r = (a + 1) * 289) ∨ ∃ a b, a ≤ 15 ∧ b ≤ 15 ∧ r = (a + 1) * 289 + (b + 1) * 17
/-- the class shows v -/
def xA (a : ed_VA) (X : mm_J) : Prop := X 2 1 = nI a.1 ∧ (∀ i, i < a.1 → X 3 i = a.2.1 i) ∧ X 1 3 = nI a.2.2
def xP (a : ed_VP) (X : mm_J) : Prop := X 4 4 = a.1 ∧ (∀ i, i < 4 → X 4 i = a.2.1 i) ∧ X 5 4 = nI 0 ∧ ∀ i, i < 4 → X 5 i = a.2.2 i
def xK (a : ed_VK) (X : mm_J) (G : mm_G) : Prop := X 6 1 = nI a.1 ∧ ∃ x : Nat → Nat, (∀ i j, i < 4 → j < 4 → x i = x j → i = j) ∧ ∀ i, i < 4 → G 7 i = some (x i) ∧ ed_kx (x i) ∧ X (x i) 1 = nI (a.2.1 i) ∧ ∀ j, j < a.2.1 i → X (x i + 1) j = a.2.2 i j
def xH (a : ed_VH) (X : mm_J) : Prop := X 16 3 = nI a.1 ∧ ∀ j, j < 20 → X 17 j = nI (a.2.1 j) ∧ X 18 j = nI (a.2.2.1 j) ∧ X (20 + 2 * j) 1 = nI (a.2.2.2.1 j) ∧ ∀ i, i < a.2.2.2.1 j → X (20 + 2 * j + 1) i = a.2.2.2.2.2 j i
def xS (a : ed_VS) (X : mm_J) : Prop := X 0 7 = nI a.1 ∧ X 0 8 = a.2.1 ∧ X 0 9 = nI a.2.2.1 ∧ X 0 10 = nI a.2.2.2.1 ∧ X 0 11 = nI a.2.2.2.2.1
def xE (a : ed_VE) (X : mm_J) : Prop := X 63 2 = nI a.1 ∧ X 63 3 = nI a.2.1 ∧ ∀ i, i < a.1 → X 64 i = a.2.2.2 i ∧ X 65 i = nI (ed_b (a.2.2.1 i))
def xN (a : ed_VN) (X : mm_J) : Prop := X 66 0 = nI a.1 ∧ X 66 1 = nI a.2.1 ∧ X 66 2 = nI a.2.2
def xB (a : ed_VB) (X : mm_J) : Prop := X 60 2 = nI a.1.length ∧ (ed_L X a.1.length).Perm (a.1.map ed_ce) ∧ X 60 3 = nI a.2
def ed_CX (v : ed_V) (X : mm_J) (G : mm_G) : Prop := mm_GI G ∧ xA (v_A v) X ∧ xP (v_P v) X ∧ xK (v_K v) X G ∧ xH (v_H v) X ∧ xS (v_S v) X ∧ xE (v_E v) X ∧ xN (v_N v) X ∧ xB (v_B v) X
/-- the reference shows v -/
def mA (a : ed_VA) (M : mm_J) : Prop := M 69 3 = nI a.1 ∧ (∀ i, i < a.1 → M 70 i = a.2.1 i) ∧ M 69 5 = nI a.2.2
def mP (a : ed_VP) (M : mm_J) : Prop := M 69 6 = a.1 ∧ (∀ i, i < 4 → M 73 i = a.2.1 i) ∧ ∀ i, i < 4 → M 74 i = a.2.2 i
def mK (a : ed_VK) (M : mm_J) : Prop := M 69 14 = nI a.1 ∧ ∀ i, i < 4 → M 76 i = nI (a.2.1 i) ∧ ∀ j, j < a.2.1 i → M 75 (i * 100 + j) = a.2.2 i j
def mH (a : ed_VH) (M : mm_J) : Prop := M 69 23 = nI a.1 ∧ ∀ j, j < 20 → M 79 j = nI (a.2.1 j) ∧ M 81 j = nI (a.2.2.1 j) ∧ M 80 j = nI (a.2.2.2.1 j) ∧ ∀ i, i < a.2.2.2.1 j → M 77 (j * 100 + a.2.1 j + i) = a.2.2.2.2.2 j i
def mS (a : ed_VS) (M : mm_J) : Prop := M 69 7 = nI a.1 ∧ M 69 8 = a.2.1 ∧ M 69 9 = nI a.2.2.1 ∧ M 69 17 = nI a.2.2.2.1 ∧ M 69 24 = nI a.2.2.2.2.1 ∧ M 69 15 = nI a.2.2.2.2.2.1 ∧ M 69 16 = nI a.2.2.2.2.2.2
def mE (a : ed_VE) (M : mm_J) : Prop := M 69 31 = nI a.1 ∧ M 69 32 = nI a.2.1 ∧ ∀ i, i < a.1 → M 85 i = if a.2.2.1 i = true then nI 1000 + a.2.2.2 i else a.2.2.2 i
def mN (a : ed_VN) (M : mm_J) : Prop := M 69 33 = nI a.1 ∧ M 69 34 = nI a.2.1 ∧ M 69 35 = nI a.2.2
def mB (a : ed_VB) (M : mm_J) : Prop := M 69 27 = nI a.1.length ∧ (ed_LM M a.1.length).Perm (a.1.map ed_dq) ∧ M 69 29 = nI (ed_pn a.2) ∧ ∀ i, i < ed_pn a.2 → M 84 i = ed_pk a.2 i
def ed_CM (v : ed_V) (M : mm_J) : Prop := mA (v_A v) M ∧ mP (v_P v) M ∧ mK (v_K v) M ∧ mH (v_H v) M ∧ mS (v_S v) M ∧ mE (v_E v) M ∧ mN (v_N v) M ∧ mB (v_B v) M
/-- what holds of every state -/
def iA (a : ed_VA) : Prop := a.1 ≤ 100 ∧ a.2.2 ≤ a.1
def iP (n : Nat) (a : ed_VP) : Prop := ed_vq n a.1 ∧ ∀ i, i < 4 → ed_vq n (a.2.1 i) ∧ ed_vb (a.2.2 i)
def iK (a : ed_VK) : Prop := a.1 ≤ 4 ∧ ∀ i, i < 4 → a.2.1 i ≤ 100
def iH (n : Nat) (a : ed_VH) : Prop := (∀ j, j < 20 → a.2.2.1 j ≤ 100 ∧ a.2.1 j + a.2.2.2.1 j ≤ a.2.2.2.2.1 j ∧ a.2.2.2.2.1 j ≤ 100) ∧
  (1 ≤ a.1 → a.2.1 (a.1 % 20) + a.2.2.1 (a.1 % 20) ≤ n ∧ n + a.2.2.2.1 (a.1 % 20) = a.2.2.2.2.1 (a.1 % 20) + a.2.2.1 (a.1 % 20)) ∧
  ∀ u, 1 ≤ u → u + 1 ≤ a.1 → a.1 < u + 20 → a.2.1 (u % 20) + a.2.2.1 (u % 20) ≤ a.2.2.2.2.1 ((u + 1) % 20) ∧ a.2.2.2.2.1 ((u + 1) % 20) + a.2.2.2.1 (u % 20) = a.2.2.2.2.1 (u % 20) + a.2.2.1 (u % 20)
def iS (a : ed_VS) : Prop := 1 ≤ a.1 ∧ a.1 ≤ 9 ∧ a.2.2.1 ≤ 100
def iE (a : ed_VE) : Prop := a.1 ≤ 12 ∧ a.2.1 < 2 ∧ ∀ i, i < a.1 → (a.2.2.1 i = true → ed_ch (a.2.2.2 i)) ∧ (a.2.2.1 i = false → ∃ k, k ≤ 15 ∧ a.2.2.2 i = nI k)
def iN (a : ed_VN) : Prop := 4 ≤ a.1 ∧ a.1 ≤ 20 ∧ 2 ≤ a.2.1 ∧ a.2.1 ≤ 6 ∧ a.2.2 ≤ 200
def iB (a : ed_VB) : Prop := a.1.length ≤ 24 ∧ (∀ e ∈ a.1, ed_vc e.1 ∧ ∃ k, k ≤ 21 ∧ e.2 = nI k) ∧ (∀ e ∈ a.1, ∀ d ∈ a.1, ed_lg e.1 d.1 = false) ∧ (a.1.map Prod.fst).Nodup ∧ ed_vd a.2
def iC (v : ed_V) : Prop := (v_l v = nI 13 ∨ v_l v = nI 14 → v_y v < v_kc v ∧ v_mk v = nI (v_ya v) ∧ v_q v = v_ya v + v_yl v) ∧ (v_l v = nI 10 ∨ v_l v = nI 11 → v_kl v 0 + v_n v ≤ 100) ∧
  (v_l v = nI 19 → 1 ≤ v_ud v ∧ v_ud v + 1 ≤ v_m v ∧ (v_m v < v_ud v + 20 → v_n v = v_sb v (v_ud v % 20)))
def ed_I0 (v : ed_V) : Prop := iA (v_A v) ∧ iP (v_n v) (v_P v) ∧ iK (v_K v) ∧ iH (v_n v) (v_H v) ∧ iS (v_S v) ∧ iE (v_E v) ∧ iN (v_N v) ∧ iB (v_B v)
def ed_I (v : ed_V) : Prop := ed_I0 v ∧ iC v
/-- the memory of two: the class's cells of K, the reference's of J -/
def mm_mx (K J : mm_J) : mm_J := fun a b => if a < 69 then K a b else J a b
theorem mx_r {K M : mm_J} {a : Nat} (h : 69 ≤ a) : mm_mx K M a = M a := by
  funext b
  exact if_neg (by omega)
theorem mx_l {K M : mm_J} {a : Nat} (h : a < 69) : mm_mx K M a = K a := by
  funext b
  exact if_pos h
theorem mx_set {K M : mm_J} {i k : Nat} {x : Int32} (h : 69 ≤ i) : mm_set (mm_mx K M) i k x = mm_mx K (mm_set M i k x) := by
  funext a b
  unfold mm_set mm_mx
  by_cases h1 : a < 69
  · rw [if_pos h1, if_pos h1, if_neg (by omega)]
  · rw [if_neg h1, if_neg h1]
theorem mx_cp {K M : mm_J} {i j sp dp n : Nat} (hi : 69 ≤ i) (hj : 69 ≤ j) : mm_cp (mm_mx K M) i j sp dp n = mm_mx K (mm_cp M i j sp dp n) := by
  funext a b
  unfold mm_cp
  rw [mx_r hi, mx_r hj]
  unfold mm_mx
  by_cases h1 : a < 69
  · rw [if_pos h1, if_pos h1, if_neg (by omega)]
  · rw [if_neg h1, if_neg h1]
theorem mx_tx {K M : mm_J} {p d s i : Nat} : ed_tx (mm_mx K M) p d s i = mm_mx K (ed_tx M p d s i) := by
  funext a b
  unfold ed_tx
  rw [mx_r (show 69 ≤ 72 by decide), mx_r (show 69 ≤ 71 by decide)]
  unfold mm_mx
  by_cases h1 : a < 69
  · rw [if_pos h1, if_pos h1, if_neg (by omega)]
  · rw [if_neg h1, if_neg h1]
theorem mx_mk {K M : mm_J} {p d s i : Nat} : ed_mk (mm_mx K M) p d s i = mm_mx K (ed_mk M p d s i) := by
  funext a b
  unfold ed_mk
  rw [mx_r (show 69 ≤ 73 by decide), mx_r (show 69 ≤ 74 by decide)]
  unfold mm_mx
  by_cases h1 : a < 69
  · rw [if_pos h1, if_pos h1, if_neg (by omega)]
  · rw [if_neg h1, if_neg h1]
theorem mx_fr {K M : mm_J} {c : Int32} {i : Nat} : ed_fr (mm_mx K M) c i = mm_mx K (ed_fr M c i) := by
  funext a b
  unfold ed_fr mm_mx
  by_cases h1 : a < 69
  · rw [if_pos h1, if_pos h1, if_neg (by omega)]
  · rw [if_neg h1, if_neg h1]
theorem mx_Re {K M : mm_J} {n p d s : Nat} : ed_Re (mm_mx K M) n p d s = mm_mx K (ed_Re M n p d s) := by
  unfold ed_Re
  rw [mx_cp (by decide) (by decide), mx_tx, mx_set (by decide), mx_r (show 69 ≤ 69 by decide), mx_set (by decide), mx_mk]
theorem mx_Rs {K M : mm_J} {n m p d s : Nat} : ed_Rs (mm_mx K M) n m p d s = mm_mx K (ed_Rs M n m p d s) := by
  unfold ed_Rs
  rw [mx_set (by decide), mx_cp (by decide) (by decide), mx_set (by decide), mx_set (by decide), mx_set (by decide), mx_set (by decide)]
theorem mx_RS {K M : mm_J} {n m p d s : Nat} : ed_RS (mm_mx K M) n m p d s = mm_mx K (ed_RS M n m p d s) := by
  unfold ed_RS
  rw [mx_Rs, mx_Re]
theorem mx_sh1 {K M : mm_J} {k : Nat} : ed_sh1 (mm_mx K M) k = mm_mx K (ed_sh1 M k) := by
  unfold ed_sh1
  rw [mx_r (show 69 ≤ 76 by decide), mx_set (by decide), mx_cp (by decide) (by decide)]
theorem mx_shift {K M : mm_J} : ed_shift (mm_mx K M) = mm_mx K (ed_shift M) := by
  unfold ed_shift
  rw [mx_sh1, mx_sh1, mx_sh1, mx_set (by decide)]
theorem mx_srK {K M : mm_J} {l : Nat} {o : Option Nat} : ed_srK (mm_mx K M) l o = mm_mx K (ed_srK M l o) := by
  cases o with
  | none => rfl
  | some q => exact mx_set (by decide)
theorem mx_pu {K M : mm_J} {d : Nat} {key : Int32} : ed_pu (mm_mx K M) d key = mm_mx K (ed_pu M d key) := by
  unfold ed_pu
  rw [mx_set (by decide), mx_set (by decide)]
/-- one side's step -/
def ed_CF (v : ed_V) (X : mm_J) (G : mm_G) (X0 : mm_J) : Prop := ed_CX v X G ∧ ∀ a, 69 ≤ a → X a = X0 a
def ed_sX (E : mm_E) (Mt : mm_M) (as : List Value) (X : mm_J) (G : mm_G) (r : Option Value) (v' : ed_V) : Prop := ∃ X' G', mm_Ret E Mt as 86 X G r 86 X' G' ∧ ed_CF v' X' G' X
def ed_sM (E : mm_E) (Mt : mm_M) (as : List Value) (M : mm_J) (r : Option Value) (v' : ed_V) : Prop := ∃ M', ed_CM v' M' ∧ ∀ K GM, mm_GI GM → mm_Ret E Mt as 86 (mm_mx K M) GM r 86 (mm_mx K M') GM
theorem ed_CF.rf {v : ed_V} {X : mm_J} {G : mm_G} (h : ed_CX v X G) : ed_CF v X G X := ⟨h, fun _ _ => rfl⟩
theorem xK.fr {a : ed_VK} {X X' : mm_J} {G : mm_G} (h : xK a X G) (e : ∀ i, 6 ≤ i → i < 16 → X' i = X i) : xK a X' G := by
  obtain ⟨h1, x, h2, h3⟩ := h
  refine ⟨by rw [e 6 (by decide) (by decide)]; exact h1, x, h2, fun i hi => ?_⟩
  obtain ⟨g1, g2, g3, g4⟩ := h3 i hi
  have g5 := g2.sh
  exact ⟨g1, g2, by rw [e _ (by omega) (by omega)]; exact g3, fun j hj => by rw [e _ (by omega) (by omega)]; exact g4 j hj⟩
theorem xH.fr {a : ed_VH} {X X' : mm_J} (h : xH a X) (e : ∀ i, 16 ≤ i → i < 60 → X' i = X i) : xH a X' := by
  refine ⟨by rw [e 16 (by decide) (by decide)]; exact h.1, fun j hj => ?_⟩
  obtain ⟨g1, g2, g3, g4⟩ := h.2 j hj
  exact ⟨by rw [e 17 (by decide) (by decide)]; exact g1, by rw [e 18 (by decide) (by decide)]; exact g2, by rw [e _ (by omega) (by omega)]; exact g3, fun i hi => by rw [e _ (by omega) (by omega)]; exact g4 i hi⟩
theorem ed_CF.q {v : ed_V} {X X0 : mm_J} {G : mm_G} (h : ed_CF v X G X0) (x : Nat) : ed_CF ((v.1.1, v.1.2.1, x), v.2.1, v.2.2.1, v.2.2.2.1, v.2.2.2.2.1, v.2.2.2.2.2.1, v.2.2.2.2.2.2.1, v.2.2.2.2.2.2.2) (mm_set X 1 3 (nI x)) G X0 := ⟨⟨h.1.1, ⟨h.1.2.1.1, h.1.2.1.2.1, rfl⟩, h.1.2.2.1, (h.1.2.2.2.1).fr (fun a _ _ => mm_set_ne _ _ _ (by omega)), (h.1.2.2.2.2.1).fr (fun a _ _ => mm_set_ne _ _ _ (by omega)), h.1.2.2.2.2.2.1, h.1.2.2.2.2.2.2.1, h.1.2.2.2.2.2.2.2.1, h.1.2.2.2.2.2.2.2.2⟩, fun a ha => (mm_set_ne _ _ _ (by omega)).trans (h.2 a ha)⟩
theorem ed_CM.q {v : ed_V} {M : mm_J} (h : ed_CM v M) (x : Nat) : ed_CM ((v.1.1, v.1.2.1, x), v.2.1, v.2.2.1, v.2.2.2.1, v.2.2.2.2.1, v.2.2.2.2.2.1, v.2.2.2.2.2.2.1, v.2.2.2.2.2.2.2) (mm_set M 69 5 (nI x)) := ⟨⟨h.1.1, h.1.2.1, rfl⟩, h.2.1, h.2.2.1, h.2.2.2.1, h.2.2.2.2.1, h.2.2.2.2.2.1, h.2.2.2.2.2.2.1, h.2.2.2.2.2.2.2⟩
theorem ed_CF.mk {v : ed_V} {X X0 : mm_J} {G : mm_G} (h : ed_CF v X G X0) (x : Int32) : ed_CF (v.1, (x, v.2.1.2.1, v.2.1.2.2), v.2.2.1, v.2.2.2.1, v.2.2.2.2.1, v.2.2.2.2.2.1, v.2.2.2.2.2.2.1, v.2.2.2.2.2.2.2) (mm_set X 4 4 x) G X0 := ⟨⟨h.1.1, h.1.2.1, ⟨rfl, fun i hi => (mm_set_o (by omega)).trans (h.1.2.2.1.2.1 i hi), h.1.2.2.1.2.2.1, h.1.2.2.1.2.2.2⟩, (h.1.2.2.2.1).fr (fun a _ _ => mm_set_ne _ _ _ (by omega)), (h.1.2.2.2.2.1).fr (fun a _ _ => mm_set_ne _ _ _ (by omega)), h.1.2.2.2.2.2.1, h.1.2.2.2.2.2.2.1, h.1.2.2.2.2.2.2.2.1, h.1.2.2.2.2.2.2.2.2⟩, fun a ha => (mm_set_ne _ _ _ (by omega)).trans (h.2 a ha)⟩
theorem ed_CM.mk {v : ed_V} {M : mm_J} (h : ed_CM v M) (x : Int32) : ed_CM (v.1, (x, v.2.1.2.1, v.2.1.2.2), v.2.2.1, v.2.2.2.1, v.2.2.2.2.1, v.2.2.2.2.2.1, v.2.2.2.2.2.2.1, v.2.2.2.2.2.2.2) (mm_set M 69 6 x) := ⟨h.1, ⟨rfl, h.2.1.2.1, h.2.1.2.2⟩, h.2.2.1, h.2.2.2.1, h.2.2.2.2.1, h.2.2.2.2.2.1, h.2.2.2.2.2.2.1, h.2.2.2.2.2.2.2⟩
theorem ed_CF.t {v : ed_V} {X X0 : mm_J} {G : mm_G} (h : ed_CF v X G X0) (x : Nat) : ed_CF (v.1, v.2.1, v.2.2.1, v.2.2.2.1, (x, v.2.2.2.2.1.2.1, v.2.2.2.2.1.2.2.1, v.2.2.2.2.1.2.2.2.1, v.2.2.2.2.1.2.2.2.2.1, v.2.2.2.2.1.2.2.2.2.2.1, v.2.2.2.2.1.2.2.2.2.2.2), v.2.2.2.2.2.1, v.2.2.2.2.2.2.1, v.2.2.2.2.2.2.2) (mm_set X 0 7 (nI x)) G X0 := ⟨⟨h.1.1, h.1.2.1, h.1.2.2.1, (h.1.2.2.2.1).fr (fun a _ _ => mm_set_ne _ _ _ (by omega)), (h.1.2.2.2.2.1).fr (fun a _ _ => mm_set_ne _ _ _ (by omega)), ⟨rfl, h.1.2.2.2.2.2.1.2.1, h.1.2.2.2.2.2.1.2.2.1, h.1.2.2.2.2.2.1.2.2.2.1, h.1.2.2.2.2.2.1.2.2.2.2⟩, h.1.2.2.2.2.2.2.1, h.1.2.2.2.2.2.2.2.1, h.1.2.2.2.2.2.2.2.2⟩, fun a ha => (mm_set_ne _ _ _ (by omega)).trans (h.2 a ha)⟩
theorem ed_CM.t {v : ed_V} {M : mm_J} (h : ed_CM v M) (x : Nat) : ed_CM (v.1, v.2.1, v.2.2.1, v.2.2.2.1, (x, v.2.2.2.2.1.2.1, v.2.2.2.2.1.2.2.1, v.2.2.2.2.1.2.2.2.1, v.2.2.2.2.1.2.2.2.2.1, v.2.2.2.2.1.2.2.2.2.2.1, v.2.2.2.2.1.2.2.2.2.2.2), v.2.2.2.2.2.1, v.2.2.2.2.2.2.1, v.2.2.2.2.2.2.2) (mm_set M 69 7 (nI x)) := ⟨h.1, h.2.1, h.2.2.1, h.2.2.2.1, ⟨rfl, h.2.2.2.2.1.2.1, h.2.2.2.2.1.2.2.1, h.2.2.2.2.1.2.2.2.1, h.2.2.2.2.1.2.2.2.2.1, h.2.2.2.2.1.2.2.2.2.2.1, h.2.2.2.2.1.2.2.2.2.2.2⟩, h.2.2.2.2.2.1, h.2.2.2.2.2.2.1, h.2.2.2.2.2.2.2⟩
theorem ed_CF.l {v : ed_V} {X X0 : mm_J} {G : mm_G} (h : ed_CF v X G X0) (x : Int32) : ed_CF (v.1, v.2.1, v.2.2.1, v.2.2.2.1, (v.2.2.2.2.1.1, x, v.2.2.2.2.1.2.2.1, v.2.2.2.2.1.2.2.2.1, v.2.2.2.2.1.2.2.2.2.1, v.2.2.2.2.1.2.2.2.2.2.1, v.2.2.2.2.1.2.2.2.2.2.2), v.2.2.2.2.2.1, v.2.2.2.2.2.2.1, v.2.2.2.2.2.2.2) (mm_set X 0 8 x) G X0 := ⟨⟨h.1.1, h.1.2.1, h.1.2.2.1, (h.1.2.2.2.1).fr (fun a _ _ => mm_set_ne _ _ _ (by omega)), (h.1.2.2.2.2.1).fr (fun a _ _ => mm_set_ne _ _ _ (by omega)), ⟨h.1.2.2.2.2.2.1.1, rfl, h.1.2.2.2.2.2.1.2.2.1, h.1.2.2.2.2.2.1.2.2.2.1, h.1.2.2.2.2.2.1.2.2.2.2⟩, h.1.2.2.2.2.2.2.1, h.1.2.2.2.2.2.2.2.1, h.1.2.2.2.2.2.2.2.2⟩, fun a ha => (mm_set_ne _ _ _ (by omega)).trans (h.2 a ha)⟩
theorem ed_CM.l {v : ed_V} {M : mm_J} (h : ed_CM v M) (x : Int32) : ed_CM (v.1, v.2.1, v.2.2.1, v.2.2.2.1, (v.2.2.2.2.1.1, x, v.2.2.2.2.1.2.2.1, v.2.2.2.2.1.2.2.2.1, v.2.2.2.2.1.2.2.2.2.1, v.2.2.2.2.1.2.2.2.2.2.1, v.2.2.2.2.1.2.2.2.2.2.2), v.2.2.2.2.2.1, v.2.2.2.2.2.2.1, v.2.2.2.2.2.2.2) (mm_set M 69 8 x) := ⟨h.1, h.2.1, h.2.2.1, h.2.2.2.1, ⟨h.2.2.2.2.1.1, rfl, h.2.2.2.2.1.2.2.1, h.2.2.2.2.1.2.2.2.1, h.2.2.2.2.1.2.2.2.2.1, h.2.2.2.2.1.2.2.2.2.2.1, h.2.2.2.2.1.2.2.2.2.2.2⟩, h.2.2.2.2.2.1, h.2.2.2.2.2.2.1, h.2.2.2.2.2.2.2⟩
theorem ed_CF.g {v : ed_V} {X X0 : mm_J} {G : mm_G} (h : ed_CF v X G X0) (x : Nat) : ed_CF (v.1, v.2.1, v.2.2.1, v.2.2.2.1, (v.2.2.2.2.1.1, v.2.2.2.2.1.2.1, x, v.2.2.2.2.1.2.2.2.1, v.2.2.2.2.1.2.2.2.2.1, v.2.2.2.2.1.2.2.2.2.2.1, v.2.2.2.2.1.2.2.2.2.2.2), v.2.2.2.2.2.1, v.2.2.2.2.2.2.1, v.2.2.2.2.2.2.2) (mm_set X 0 9 (nI x)) G X0 := ⟨⟨h.1.1, h.1.2.1, h.1.2.2.1, (h.1.2.2.2.1).fr (fun a _ _ => mm_set_ne _ _ _ (by omega)), (h.1.2.2.2.2.1).fr (fun a _ _ => mm_set_ne _ _ _ (by omega)), ⟨h.1.2.2.2.2.2.1.1, h.1.2.2.2.2.2.1.2.1, rfl, h.1.2.2.2.2.2.1.2.2.2.1, h.1.2.2.2.2.2.1.2.2.2.2⟩, h.1.2.2.2.2.2.2.1, h.1.2.2.2.2.2.2.2.1, h.1.2.2.2.2.2.2.2.2⟩, fun a ha => (mm_set_ne _ _ _ (by omega)).trans (h.2 a ha)⟩
theorem ed_CM.g {v : ed_V} {M : mm_J} (h : ed_CM v M) (x : Nat) : ed_CM (v.1, v.2.1, v.2.2.1, v.2.2.2.1, (v.2.2.2.2.1.1, v.2.2.2.2.1.2.1, x, v.2.2.2.2.1.2.2.2.1, v.2.2.2.2.1.2.2.2.2.1, v.2.2.2.2.1.2.2.2.2.2.1, v.2.2.2.2.1.2.2.2.2.2.2), v.2.2.2.2.2.1, v.2.2.2.2.2.2.1, v.2.2.2.2.2.2.2) (mm_set M 69 9 (nI x)) := ⟨h.1, h.2.1, h.2.2.1, h.2.2.2.1, ⟨h.2.2.2.2.1.1, h.2.2.2.2.1.2.1, rfl, h.2.2.2.2.1.2.2.2.1, h.2.2.2.2.1.2.2.2.2.1, h.2.2.2.2.1.2.2.2.2.2.1, h.2.2.2.2.1.2.2.2.2.2.2⟩, h.2.2.2.2.2.1, h.2.2.2.2.2.2.1, h.2.2.2.2.2.2.2⟩
theorem ed_CF.y {v : ed_V} {X X0 : mm_J} {G : mm_G} (h : ed_CF v X G X0) (x : Nat) : ed_CF (v.1, v.2.1, v.2.2.1, v.2.2.2.1, (v.2.2.2.2.1.1, v.2.2.2.2.1.2.1, v.2.2.2.2.1.2.2.1, x, v.2.2.2.2.1.2.2.2.2.1, v.2.2.2.2.1.2.2.2.2.2.1, v.2.2.2.2.1.2.2.2.2.2.2), v.2.2.2.2.2.1, v.2.2.2.2.2.2.1, v.2.2.2.2.2.2.2) (mm_set X 0 10 (nI x)) G X0 := ⟨⟨h.1.1, h.1.2.1, h.1.2.2.1, (h.1.2.2.2.1).fr (fun a _ _ => mm_set_ne _ _ _ (by omega)), (h.1.2.2.2.2.1).fr (fun a _ _ => mm_set_ne _ _ _ (by omega)), ⟨h.1.2.2.2.2.2.1.1, h.1.2.2.2.2.2.1.2.1, h.1.2.2.2.2.2.1.2.2.1, rfl, h.1.2.2.2.2.2.1.2.2.2.2⟩, h.1.2.2.2.2.2.2.1, h.1.2.2.2.2.2.2.2.1, h.1.2.2.2.2.2.2.2.2⟩, fun a ha => (mm_set_ne _ _ _ (by omega)).trans (h.2 a ha)⟩
theorem ed_CM.y {v : ed_V} {M : mm_J} (h : ed_CM v M) (x : Nat) : ed_CM (v.1, v.2.1, v.2.2.1, v.2.2.2.1, (v.2.2.2.2.1.1, v.2.2.2.2.1.2.1, v.2.2.2.2.1.2.2.1, x, v.2.2.2.2.1.2.2.2.2.1, v.2.2.2.2.1.2.2.2.2.2.1, v.2.2.2.2.1.2.2.2.2.2.2), v.2.2.2.2.2.1, v.2.2.2.2.2.2.1, v.2.2.2.2.2.2.2) (mm_set M 69 17 (nI x)) := ⟨h.1, h.2.1, h.2.2.1, h.2.2.2.1, ⟨h.2.2.2.2.1.1, h.2.2.2.2.1.2.1, h.2.2.2.2.1.2.2.1, rfl, h.2.2.2.2.1.2.2.2.2.1, h.2.2.2.2.1.2.2.2.2.2.1, h.2.2.2.2.1.2.2.2.2.2.2⟩, h.2.2.2.2.2.1, h.2.2.2.2.2.2.1, h.2.2.2.2.2.2.2⟩
theorem ed_CF.ud {v : ed_V} {X X0 : mm_J} {G : mm_G} (h : ed_CF v X G X0) (x : Nat) : ed_CF (v.1, v.2.1, v.2.2.1, v.2.2.2.1, (v.2.2.2.2.1.1, v.2.2.2.2.1.2.1, v.2.2.2.2.1.2.2.1, v.2.2.2.2.1.2.2.2.1, x, v.2.2.2.2.1.2.2.2.2.2.1, v.2.2.2.2.1.2.2.2.2.2.2), v.2.2.2.2.2.1, v.2.2.2.2.2.2.1, v.2.2.2.2.2.2.2) (mm_set X 0 11 (nI x)) G X0 := ⟨⟨h.1.1, h.1.2.1, h.1.2.2.1, (h.1.2.2.2.1).fr (fun a _ _ => mm_set_ne _ _ _ (by omega)), (h.1.2.2.2.2.1).fr (fun a _ _ => mm_set_ne _ _ _ (by omega)), ⟨h.1.2.2.2.2.2.1.1, h.1.2.2.2.2.2.1.2.1, h.1.2.2.2.2.2.1.2.2.1, h.1.2.2.2.2.2.1.2.2.2.1, rfl⟩, h.1.2.2.2.2.2.2.1, h.1.2.2.2.2.2.2.2.1, h.1.2.2.2.2.2.2.2.2⟩, fun a ha => (mm_set_ne _ _ _ (by omega)).trans (h.2 a ha)⟩
theorem ed_CM.ud {v : ed_V} {M : mm_J} (h : ed_CM v M) (x : Nat) : ed_CM (v.1, v.2.1, v.2.2.1, v.2.2.2.1, (v.2.2.2.2.1.1, v.2.2.2.2.1.2.1, v.2.2.2.2.1.2.2.1, v.2.2.2.2.1.2.2.2.1, x, v.2.2.2.2.1.2.2.2.2.2.1, v.2.2.2.2.1.2.2.2.2.2.2), v.2.2.2.2.2.1, v.2.2.2.2.2.2.1, v.2.2.2.2.2.2.2) (mm_set M 69 24 (nI x)) := ⟨h.1, h.2.1, h.2.2.1, h.2.2.2.1, ⟨h.2.2.2.2.1.1, h.2.2.2.2.1.2.1, h.2.2.2.2.1.2.2.1, h.2.2.2.2.1.2.2.2.1, rfl, h.2.2.2.2.1.2.2.2.2.2.1, h.2.2.2.2.1.2.2.2.2.2.2⟩, h.2.2.2.2.2.1, h.2.2.2.2.2.2.1, h.2.2.2.2.2.2.2⟩
theorem ed_CM.ya {v : ed_V} {M : mm_J} (h : ed_CM v M) (x : Nat) : ed_CM (v.1, v.2.1, v.2.2.1, v.2.2.2.1, (v.2.2.2.2.1.1, v.2.2.2.2.1.2.1, v.2.2.2.2.1.2.2.1, v.2.2.2.2.1.2.2.2.1, v.2.2.2.2.1.2.2.2.2.1, x, v.2.2.2.2.1.2.2.2.2.2.2), v.2.2.2.2.2.1, v.2.2.2.2.2.2.1, v.2.2.2.2.2.2.2) (mm_set M 69 15 (nI x)) := ⟨h.1, h.2.1, h.2.2.1, h.2.2.2.1, ⟨h.2.2.2.2.1.1, h.2.2.2.2.1.2.1, h.2.2.2.2.1.2.2.1, h.2.2.2.2.1.2.2.2.1, h.2.2.2.2.1.2.2.2.2.1, rfl, h.2.2.2.2.1.2.2.2.2.2.2⟩, h.2.2.2.2.2.1, h.2.2.2.2.2.2.1, h.2.2.2.2.2.2.2⟩
theorem ed_CM.yl {v : ed_V} {M : mm_J} (h : ed_CM v M) (x : Nat) : ed_CM (v.1, v.2.1, v.2.2.1, v.2.2.2.1, (v.2.2.2.2.1.1, v.2.2.2.2.1.2.1, v.2.2.2.2.1.2.2.1, v.2.2.2.2.1.2.2.2.1, v.2.2.2.2.1.2.2.2.2.1, v.2.2.2.2.1.2.2.2.2.2.1, x), v.2.2.2.2.2.1, v.2.2.2.2.2.2.1, v.2.2.2.2.2.2.2) (mm_set M 69 16 (nI x)) := ⟨h.1, h.2.1, h.2.2.1, h.2.2.2.1, ⟨h.2.2.2.2.1.1, h.2.2.2.2.1.2.1, h.2.2.2.2.1.2.2.1, h.2.2.2.2.1.2.2.2.1, h.2.2.2.2.1.2.2.2.2.1, h.2.2.2.2.1.2.2.2.2.2.1, rfl⟩, h.2.2.2.2.2.1, h.2.2.2.2.2.2.1, h.2.2.2.2.2.2.2⟩
theorem ed_CF.d67 {v : ed_V} {X X0 : mm_J} {G : mm_G} (h : ed_CF v X G X0) (x : Int32) : ed_CF v (mm_set X 67 1 x) G X0 := ⟨⟨h.1.1, h.1.2.1, h.1.2.2.1, (h.1.2.2.2.1).fr (fun a _ _ => mm_set_ne _ _ _ (by omega)), (h.1.2.2.2.2.1).fr (fun a _ _ => mm_set_ne _ _ _ (by omega)), h.1.2.2.2.2.2.1, h.1.2.2.2.2.2.2.1, h.1.2.2.2.2.2.2.2.1, h.1.2.2.2.2.2.2.2.2⟩, fun a ha => (mm_set_ne _ _ _ (by omega)).trans (h.2 a ha)⟩
theorem ed_CM.fl {v : ed_V} {M : mm_J} (h : ed_CM v M) (x : Int32) : ed_CM v (mm_set M 69 4 x) := ⟨h.1, h.2.1, h.2.2.1, h.2.2.2.1, h.2.2.2.2.1, h.2.2.2.2.2.1, h.2.2.2.2.2.2.1, h.2.2.2.2.2.2.2⟩
