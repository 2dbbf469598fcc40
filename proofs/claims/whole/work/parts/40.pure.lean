/-! the pure functions on texts that agree -/
theorem ed_up_cg {q q' : Nat → Bool} : ∀ k p, (∀ j, p ≤ j → j < p + k → q j = q' j) → ed_up q k p = ed_up q' k p
  | 0, p, _ => rfl
  | k + 1, p, h => by
    unfold ed_up
    rw [h p (Nat.le_refl p) (by omega), ed_up_cg k (p + 1) (fun j a b => h j (by omega) (by omega))]
theorem ed_dn_cg {q q' : Nat → Bool} : ∀ p, (∀ j, j < p → q j = q' j) → ed_dn q p = ed_dn q' p
  | 0, _ => rfl
  | p + 1, h => by
    unfold ed_dn
    rw [h p (by omega), ed_dn_cg p (fun j a => h j (by omega))]
def ed_eq (n : Nat) (f g : Nat → Int32) : Prop := ∀ i, i < n → f i = g i
theorem ed_eq.nl {n : Nat} {f g : Nat → Int32} (h : ed_eq n f g) {i : Nat} (hi : i < n) : ed_nl f i = ed_nl g i := by
  unfold ed_nl
  rw [h i hi]
theorem ed_eq.lt {n : Nat} {f g : Nat → Int32} (h : ed_eq n f g) {i : Nat} (hi : i < n) : ed_lt f i = ed_lt g i := by
  unfold ed_lt
  rw [h i hi]
theorem ed_eq.nlt {n : Nat} {f g : Nat → Int32} (h : ed_eq n f g) {i : Nat} (hi : i < n) : ed_nlt f i = ed_nlt g i := by
  unfold ed_nlt
  rw [h i hi]
theorem ed_eq.le {n p : Nat} {f g : Nat → Int32} (h : ed_eq n f g) (hp : p ≤ n) : ed_le f n p = ed_le g n p := ed_up_cg _ _ (fun j a b => h.nl (by omega))
theorem ed_eq.lb {n p : Nat} {f g : Nat → Int32} (h : ed_eq n f g) (hp : p ≤ n) : ed_lb f p = ed_lb g p := ed_dn_cg _ (fun j a => h.nl (by omega))
theorem ed_eq.below {n : Nat} {f g : Nat → Int32} (h : ed_eq n f g) : ∀ k b, b ≤ n → ed_below f n k b = ed_below g n k b
  | 0, _, _ => rfl
  | k + 1, b, hb => by
    unfold ed_below
    rw [h.le hb]
    have := ed_le_le (f := g) hb
    exact ed_eq.below h k _ (by split <;> omega)
theorem ed_eq.above {n : Nat} {f g : Nat → Int32} (h : ed_eq n f g) : ∀ k b, b ≤ n → ed_above f k b = ed_above g k b
  | 0, _, _ => rfl
  | k + 1, b, hb => by
    unfold ed_above
    rw [h.lb (show b - 1 ≤ n by omega)]
    have := ed_lb_le (f := g) (p := b - 1)
    rw [ed_eq.above h k _ (by omega)]
theorem ed_eq.fw {n : Nat} {f g : Nat → Int32} (h : ed_eq n f g) : ∀ k b, b ≤ n → ed_fw f n k b = ed_fw g n k b
  | 0, _, _ => rfl
  | k + 1, b, hb => by
    have h1 : ed_up (ed_nlt f) (n - b) b = ed_up (ed_nlt g) (n - b) b := ed_up_cg _ _ (fun j a b => h.nlt (by omega))
    have h2 := ed_up_le (ed_nlt g) (n - b) b
    have h3 := ed_up_le (ed_lt g) (n - ed_up (ed_nlt g) (n - b) b) (ed_up (ed_nlt g) (n - b) b)
    unfold ed_fw
    rw [h1, ed_up_cg (q := ed_lt f) (q' := ed_lt g) _ _ (fun j a b => h.lt (by omega))]
    exact ed_eq.fw h k _ (by omega)
theorem ed_fw_le {n : Nat} {g : Nat → Int32} : ∀ k b, b ≤ n → ed_fw g n k b ≤ n
  | 0, _, hb => hb
  | k + 1, b, hb => by
    have h2 := ed_up_le (ed_nlt g) (n - b) b
    have h3 := ed_up_le (ed_lt g) (n - ed_up (ed_nlt g) (n - b) b) (ed_up (ed_nlt g) (n - b) b)
    unfold ed_fw
    exact ed_fw_le k _ (by omega)
theorem ed_eq.bw {n : Nat} {f g : Nat → Int32} (h : ed_eq n f g) : ∀ k b, b ≤ n → ed_bw f k b = ed_bw g k b
  | 0, _, _ => rfl
  | k + 1, b, hb => by
    have h1 : ed_dn (ed_nlt f) b = ed_dn (ed_nlt g) b := ed_dn_cg _ (fun j a => h.nlt (by omega))
    have h2 := ed_dn_le (ed_nlt g) b
    have h3 := ed_dn_le (ed_lt g) (ed_dn (ed_nlt g) b)
    unfold ed_bw
    rw [h1, ed_dn_cg (q := ed_lt f) (q' := ed_lt g) _ (fun j a => h.lt (by omega))]
    exact ed_eq.bw h k _ (by omega)
theorem ed_bw_le {g : Nat → Int32} : ∀ k b, ed_bw g k b ≤ b
  | 0, b => Nat.le_refl b
  | k + 1, b => by
    have h2 := ed_dn_le (ed_nlt g) b
    have h3 := ed_dn_le (ed_lt g) (ed_dn (ed_nlt g) b)
    have h4 := ed_bw_le (g := g) k (ed_dn (ed_lt g) (ed_dn (ed_nlt g) b))
    unfold ed_bw
    omega
theorem ed_eq.rc {n c : Nat} {f g : Nat → Int32} (h : ed_eq n f g) : ∀ i, i ≤ n → ed_rc f c i = ed_rc g c i
  | 0, _ => rfl
  | i + 1, hi => by
    unfold ed_rc
    rw [ed_eq.rc h i (by omega), h i (by omega)]
theorem ed_eq.ca {n c sr sc : Nat} {f g : Nat → Int32} (h : ed_eq n f g) : ∀ k i, i + k ≤ n → ed_ca f c sr sc k i = ed_ca g c sr sc k i
  | 0, _, _ => rfl
  | k + 1, i, hi => by
    unfold ed_ca
    rw [h.rc i (by omega), h i (by omega), ed_eq.ca h k (i + 1) (by omega)]
theorem ed_eq.cb {n c sr sc : Nat} {f g : Nat → Int32} (h : ed_eq n f g) : ∀ k i, i + k ≤ n → ed_cb f c sr sc k i = ed_cb g c sr sc k i
  | 0, _, _ => rfl
  | k + 1, i, hi => by
    unfold ed_cb
    rw [h.rc i (by omega), h i (by omega), ed_eq.cb h k (i + 1) (by omega)]
theorem ed_eq.lke {n q : Nat} {f g : Nat → Int32} (h : ed_eq n f g) (hq : q ≤ n) : ed_lke f n q = ed_lke g n q := by
  unfold ed_lke
  rw [h.le hq]
theorem ed_eq.kd {n q : Nat} {f g : Nat → Int32} (h : ed_eq n f g) (hq : q ≤ n) : ed_kd f n q = ed_kd g n q := by
  unfold ed_kd
  rw [h.le hq]
theorem ed_lke_kd {n q : Nat} {f : Nat → Int32} (hq : q ≤ n) : ed_lke f n q = q + ed_kd f n q ∧ ed_lke f n q ≤ n := by
  have := ed_le_le (f := f) hq
  unfold ed_lke ed_kd
  split
  · omega
  · split <;> omega
theorem ed_at_cg {f f' g g' : Nat → Int32} {p l : Nat} (h : ∀ i, i < l → f (p + i) = f' (p + i)) (h2 : ed_eq l g g') : ed_at f g p l = ed_at f' g' p l := by
  unfold ed_at
  refine decide_eq_decide.mpr ⟨fun q i hi => ?_, fun q i hi => ?_⟩
  · rw [← h i hi, ← h2 i hi]; exact q i hi
  · rw [h i hi, h2 i hi]; exact q i hi
theorem ed_eq.sr {n l : Nat} {f f' g g' : Nat → Int32} (h : ed_eq n f f') (h2 : ed_eq l g g') : ∀ k p, p + l + k ≤ n + 1 → ed_sr f g l k p = ed_sr f' g' l k p
  | 0, _, _ => rfl
  | k + 1, p, hp => by
    unfold ed_sr
    rw [ed_at_cg (f := f) (f' := f') (fun i hi => h _ (by omega)) h2, ed_eq.sr h h2 k (p + 1) (by omega)]
theorem ed_sr_le {f g : Nat → Int32} {l : Nat} : ∀ k p x, ed_sr f g l k p = some x → p ≤ x ∧ x < p + k
  | 0, _, _, h => by cases h
  | k + 1, p, x, h => by
    unfold ed_sr at h
    split at h
    · cases h
      omega
    · have := ed_sr_le k (p + 1) x h
      omega
/-- rows and columns go on -/
theorem ed_rc_up {f : Nat → Int32} {c i : Nat} : ∀ k, (ed_rc f c i).1 < (ed_rc f c (i + k + 1)).1 ∨ ((ed_rc f c i).1 = (ed_rc f c (i + k + 1)).1 ∧ (ed_rc f c i).2 < (ed_rc f c (i + k + 1)).2)
  | 0 => by
    by_cases h : (ed_rc f c i).2 + 1 = c ∨ f i = nI 10
    · rw [show i + 0 + 1 = i + 1 from rfl, ed_rc_y h]
      exact Or.inl (Nat.lt_succ_self _)
    · rw [show i + 0 + 1 = i + 1 from rfl, ed_rc_n (fun q => h (Or.inl q)) (fun q => h (Or.inr q))]
      exact Or.inr ⟨rfl, Nat.lt_succ_self _⟩
  | k + 1 => by
    have h1 := ed_rc_up (f := f) (c := c) (i := i) k
    rw [show i + (k + 1) + 1 = (i + k + 1) + 1 by omega]
    by_cases h : (ed_rc f c (i + k + 1)).2 + 1 = c ∨ f (i + k + 1) = nI 10
    · rw [ed_rc_y h]
      dsimp only
      omega
    · rw [ed_rc_n (fun q => h (Or.inl q)) (fun q => h (Or.inr q))]
      dsimp only
      omega
theorem ed_cb_0 {f : Nat → Int32} {c sr sc : Nat} : ∀ k i, (∀ j, i ≤ j → ¬ ((ed_rc f c j).2 = sc ∧ (ed_rc f c j).1 = sr)) → ed_cb f c sr sc k i = nI 0
  | 0, _, _ => rfl
  | k + 1, i, h => by
    unfold ed_cb
    rw [if_neg (fun q => h i (Nat.le_refl i) q.2)]
    exact ed_cb_0 k (i + 1) (fun j a => h j (by omega))
theorem ed_ca_cb {f : Nat → Int32} {c sr sc : Nat} : ∀ k i, ed_ca f c sr sc k i = ed_cb f c sr sc k i
  | 0, _ => rfl
  | k + 1, i => by
    unfold ed_ca ed_cb
    by_cases h : (ed_rc f c i).1 = sr ∧ (ed_rc f c i).2 = sc
    · rw [if_pos h]
      by_cases h2 : f i = nI 10
      · rw [if_pos h2, if_neg (fun q => q.1 h2), ed_cb_0]
        intro j hj q
        have h3 := ed_rc_up (f := f) (c := c) (i := i) (j - i - 1)
        rw [show i + (j - i - 1) + 1 = j by omega] at h3
        omega
      · rw [if_neg h2, if_pos ⟨h2, h.2, h.1⟩]
    · rw [if_neg h, if_neg (fun q => h ⟨q.2.2, q.2.1⟩)]
      exact ed_ca_cb k (i + 1)
/-- places: none, or one in the text -/
def ed_vq (n : Nat) (o : Int32) : Prop := o = -2 ∨ ∃ m, m ≤ n ∧ o = nI m
theorem ed_vq.vp {n : Nat} {o : Int32} (h : ed_vq n o) (hn : n ≤ 100) : ed_vp o := h.imp id (fun ⟨m, h1, h2⟩ => ⟨m, by omega, h2⟩)
theorem ed_mv_le {m fb p d s n : Nat} (hm : m ≤ n) (hpd : p + d ≤ n) : ed_mv m fb p d s ≤ n - d + s := by
  unfold ed_mv
  split
  · omega
  · split <;> omega
theorem ed_vq.mv {n : Nat} {o fo : Int32} {p d s : Nat} (h : ed_vq n o) (hn : n ≤ 100) (hpd : p + d ≤ n) : ed_vq (n - d + s) (ed_pm o fo p d s) := by
  rcases h with rfl | ⟨m, h1, rfl⟩
  · exact Or.inl rfl
  · refine Or.inr ⟨ed_mv m fo.toNatClampNeg p d s, ed_mv_le h1 hpd, ?_⟩
    unfold ed_pm
    rw [if_neg (ed_m2n (by omega)), nI_clamp (by omega)]
theorem va_cpy_y {f g : Nat → Int32} {sp dp n k : Nat} (h1 : dp ≤ k) (h2 : k < dp + n) : va_cpy f g sp dp n k = f (sp + (k - dp)) := if_pos ⟨h1, h2⟩
theorem va_cpy_n {f g : Nat → Int32} {sp dp n k : Nat} (h : k < dp ∨ dp + n ≤ k) : va_cpy f g sp dp n k = g k := if_neg (by omega)
theorem mm_cp_at (J : mm_J) (i j sp dp n : Nat) : mm_cp J i j sp dp n j = va_cpy (J i) (J j) sp dp n := by
  funext b
  exact if_pos rfl
theorem mm_cp_ne (J : mm_J) {i j a : Nat} (sp dp n : Nat) (h : a ≠ j) : mm_cp J i j sp dp n a = J a := by
  funext b
  exact if_neg h
