/-! the fixed references of the memory; numbers of cells: 86 in all, the class has 0 .. 68, the reference 69 .. 85 -/
def mm_lkL : List (Nat × Nat × Nat) := [(0, 6, 67), (0, 4, 63), (0, 2, 16), (0, 3, 60), (0, 1, 6), (0, 0, 1), (0, 5, 66), (1, 0, 2), (1, 2, 5), (1, 1, 4), (2, 0, 3), (6, 0, 7), (8, 0, 9), (10, 0, 11), (12, 0, 13), (14, 0, 15), (16, 0, 17), (16, 1, 18), (16, 2, 19), (20, 0, 21), (22, 0, 23), (24, 0, 25), (26, 0, 27), (28, 0, 29), (30, 0, 31), (32, 0, 33), (34, 0, 35), (36, 0, 37), (38, 0, 39), (40, 0, 41), (42, 0, 43), (44, 0, 45), (46, 0, 47), (48, 0, 49), (50, 0, 51), (52, 0, 53), (54, 0, 55), (56, 0, 57), (58, 0, 59), (60, 0, 61), (60, 1, 62), (63, 0, 64), (63, 1, 65), (67, 0, 68), (69, 18, 77), (69, 19, 78), (69, 25, 82), (69, 26, 83), (69, 30, 85), (69, 11, 74), (69, 2, 72), (69, 12, 75), (69, 13, 76), (69, 10, 73), (69, 1, 71), (69, 28, 84), (69, 20, 79), (69, 22, 81), (69, 21, 80), (69, 0, 70)]
def mm_GI (G : mm_G) : Prop := (∀ x, mm_SH x = .inl 2 → G x 0 = some (x + 1)) ∧ (∀ i, i < 20 → G 19 i = some (20 + 2 * i)) ∧ ∀ q ∈ mm_lkL, G q.1 q.2.1 = some q.2.2
theorem mm_gi {G : mm_G} (hG : mm_GI G) (a k b : Nat) (h : (a, k, b) ∈ mm_lkL) : G a k = some b := hG.2.2 (a, k, b) h
theorem mm_lt {x ci : Nat} (h : mm_SH x = .inl (ci + 1)) : x < 86 := by
  rcases Nat.lt_or_ge x 86 with q | q
  · exact q
  · unfold mm_SH at h
    rw [List.getD_eq_getElem?_getD, List.getElem?_eq_none (by exact q)] at h
    cases h
theorem mm_let : ∀ x, x < 86 → mm_SH x = .inl 2 → mm_SH (x + 1) = .inr (0, 100) ∧ x + 1 < 86 := by decide
theorem mm_l1 {x : Nat} (h : mm_SH x = .inl 2) : x < 86 := mm_lt h
theorem mm_l2 {x : Nat} (h : mm_SH x = .inl 2) : mm_SH (x + 1) = .inr (0, 100) := (mm_let x (mm_lt h) h).1
theorem mm_l3 {x : Nat} (h : mm_SH x = .inl 2) : x + 1 < 86 := (mm_let x (mm_lt h) h).2
/-- up from p while q holds, at most k places -/
def ed_up (q : Nat → Bool) : Nat → Nat → Nat
  | 0, p => p
  | k + 1, p => if q p = true then ed_up q k (p + 1) else p
/-- down from p while q holds of the place before -/
def ed_dn (q : Nat → Bool) : Nat → Nat
  | 0 => 0
  | p + 1 => if q p = true then ed_dn q p else p + 1
theorem ed_up_le (q : Nat → Bool) : ∀ k p, p ≤ ed_up q k p ∧ ed_up q k p ≤ p + k
  | 0, p => ⟨Nat.le_refl p, Nat.le_refl p⟩
  | k + 1, p => by
    unfold ed_up
    split
    · have := ed_up_le q k (p + 1)
      omega
    · omega
theorem ed_dn_le (q : Nat → Bool) : ∀ p, ed_dn q p ≤ p
  | 0 => Nat.le_refl 0
  | p + 1 => by
    unfold ed_dn
    split
    · have := ed_dn_le q p
      omega
    · omega
def ed_nl (f : Nat → Int32) (i : Nat) : Bool := decide (f i ≠ nI 10)
def ed_ltc (c : Int32) : Bool := decide (nI 97 ≤ c ∧ c ≤ nI 122)
def ed_lt (f : Nat → Int32) (i : Nat) : Bool := ed_ltc (f i)
def ed_nlt (f : Nat → Int32) (i : Nat) : Bool := !ed_ltc (f i)
def ed_b (b : Bool) : Nat := if b = true then 1 else 0
theorem ed_up_y {q : Nat → Bool} {k p : Nat} (h : q p = true) : ed_up q (k + 1) p = ed_up q k (p + 1) := by
  rw [ed_up, if_pos h]
theorem ed_up_n {q : Nat → Bool} {k p : Nat} (h : q p = false) : ed_up q k p = p := by
  cases k with
  | zero => rfl
  | succ k => rw [ed_up, if_neg (by rw [h]; decide)]
theorem ed_dn_y {q : Nat → Bool} {p : Nat} (h : q p = true) : ed_dn q (p + 1) = ed_dn q p := by
  rw [ed_dn, if_pos h]
theorem ed_dn_n {q : Nat → Bool} {p : Nat} (h : q p = false) : ed_dn q (p + 1) = p + 1 := by
  rw [ed_dn, if_neg (by rw [h]; decide)]
theorem ed_nl_y {f : Nat → Int32} {i : Nat} (h : ¬ f i = nI 10) : ed_nl f i = true := by simp [ed_nl, h]
theorem ed_nl_n {f : Nat → Int32} {i : Nat} (h : f i = nI 10) : ed_nl f i = false := by simp [ed_nl, h]
/-- a line's end, its beginning -/
def ed_le (f : Nat → Int32) (n p : Nat) : Nat := ed_up (ed_nl f) (n - p) p
def ed_lb (f : Nat → Int32) (p : Nat) : Nat := ed_dn (ed_nl f) p
theorem ed_le_le {f : Nat → Int32} {n p : Nat} (h : p ≤ n) : p ≤ ed_le f n p ∧ ed_le f n p ≤ n := by
  have := ed_up_le (ed_nl f) (n - p) p
  unfold ed_le
  omega
theorem ed_lb_le {f : Nat → Int32} {p : Nat} : ed_lb f p ≤ p := ed_dn_le _ p
/-- k lines down, up -/
def ed_below (f : Nat → Int32) (n : Nat) : Nat → Nat → Nat
  | 0, b => b
  | k + 1, b => ed_below f n k (if ed_le f n b < n then ed_le f n b + 1 else b)
def ed_above (f : Nat → Int32) : Nat → Nat → Nat
  | 0, b => b
  | k + 1, b => if 0 < b then ed_above f k (ed_lb f (b - 1)) else b
/-- k words on, back -/
def ed_fw (f : Nat → Int32) (n : Nat) : Nat → Nat → Nat
  | 0, p => p
  | k + 1, p => ed_fw f n k (ed_up (ed_lt f) (n - ed_up (ed_nlt f) (n - p) p) (ed_up (ed_nlt f) (n - p) p))
def ed_bw (f : Nat → Int32) : Nat → Nat → Nat
  | 0, p => p
  | k + 1, p => ed_bw f k (ed_dn (ed_lt f) (ed_dn (ed_nlt f) p))
/-- where an edit moves a place -/
def ed_mv (m fb p d s : Nat) : Nat := if m < p ∨ (m = p ∧ (0 < d ∨ fb = 0)) then m else if p < m ∧ m < p + d then p else m + s - d
def ed_pm (o fo : Int32) (p d s : Nat) : Int32 := if o = -2 then -2 else nI (ed_mv o.toNatClampNeg fo.toNatClampNeg p d s)
theorem ed_m2 {p : Nat} (hp : p < 2 ^ 31) : (-2 : Int32) < nI p := by
  rw [Int32.lt_iff_toInt_lt, nI_toInt hp]
  have : (-2 : Int32).toInt = -2 := by decide
  omega
theorem ed_m2n {p : Nat} (hp : p < 2 ^ 31) : ¬ nI p = -2 := fun h => by
  have := ed_m2 hp
  rw [h] at this
  exact absurd this (by decide)
theorem ed_gr {a s d : Nat} (h : d ≤ a) : nI a + (nI s - nI d) = nI (a - d + s) := by
  have e : nI a = nI (a - d) + nI d := by rw [nI_add]; congr 1; omega
  rw [e, Int32.add_assoc, Int32.add_comm (nI d), Int32.sub_add_cancel, nI_add]

