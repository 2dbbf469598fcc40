/-! THE LAYER. The memory of a run is flat: the i-th cell that the law's body makes lies at the address base + i, its shape is mm_SH i, its ints are J i, its references G i. -/
abbrev mm_J : Type := Nat → Nat → Int32
abbrev mm_G : Type := Nat → Nat → Option Nat
abbrev mm_E : Type := Launch × (Nat → ClassId) × (Nat → Nat → Nat) × (Nat → ClassId) × Nat × Nat
abbrev mm_l (E : mm_E) : Launch := E.1
abbrev mm_D (E : mm_E) : va_G := (E.2.1, E.2.2.1)
abbrev mm_cA (E : mm_E) (t : Nat) : ClassId := E.2.2.2.1 t
abbrev mm_b (E : mm_E) : Nat := E.2.2.2.2.1
abbrev mm_sc (E : mm_E) : Nat := E.2.2.2.2.2
abbrev mm_M : Type := MethodName × ByteArray × (Nat → Option (Instr × Nat)) × Nat × Option FieldType × Room × (Nat → Option (Nat × Nat))
abbrev mm_y (M : mm_M) : MethodName := M.1
abbrev mm_c (M : mm_M) : ByteArray := M.2.1
abbrev mm_d (M : mm_M) : Nat → Option (Instr × Nat) := M.2.2.1
abbrev mm_n (M : mm_M) : Nat := M.2.2.2.1
abbrev mm_r (M : mm_M) : Option FieldType := M.2.2.2.2.1
abbrev mm_R (M : mm_M) : Room := M.2.2.2.2.2.1
abbrev mm_f (M : mm_M) : Nat → Option (Nat × Nat) := M.2.2.2.2.2.2
abbrev mm_w (M : mm_M) : List Cond := Cond.code (mm_y M) (mm_c M) (mm_n M) (mm_r M) :: lw_t2
def mm_v (E : mm_E) (v : Value) : Value := match v with
  | .ref a => .ref (mm_b E + a)
  | .int x => .int x
  | .null => .null
  | .retAddr _ => .ref (mm_sc E)
  | w => w
theorem mm_cat (E : mm_E) (v : Value) : (mm_v E v).category = v.category := by cases v <;> rfl
def mm_o (E : mm_E) (x : Option Nat) : Option Nat := match x with
  | none => none
  | some a => some (mm_b E + a)
def mm_N (ci : Nat) : Nat := match mm_cl[ci]? with
  | some r => r.2.2
  | none => 0
def mm_val (E : mm_E) (r : Bool) (j : Nat → Int32) (g : Nat → Option Nat) (k : Nat) : Value := if r = true then va_rf (mm_o E (g k)) else .int (j k)
def mm_rt (t : Nat) : Bool := refKind (mm_ty.getD t .int)
theorem mm_rt_p {t : Nat} {ty : FieldType} (hp : mm_ty.getD t .int = ty) (h : refKind ty = false) : mm_rt t = false := by
  unfold mm_rt
  rw [hp]
  exact h
abbrev mm_val' (E : mm_E) (ci : Nat) (j : Nat → Int32) (g : Nat → Option Nat) (k : Nat) : Value := mm_val E (mm_fr ci k) j g k
def mm_at (E : mm_E) (i : Nat) (H : Heap) (sh : Nat ⊕ (Nat × Nat)) (j : Nat → Int32) (g : Nat → Option Nat) : Prop := match sh with
  | .inl ci => t_OB (mm_b E + i) ((mm_D E).1 ci) (mm_N ci) ((mm_D E).2 ci) H (mm_val' E ci j g)
  | .inr q => H[mm_b E + i]? = some (arrV (mm_cA E q.1) q.2 (mm_val E (mm_rt q.1) j g))
def mm_W (E : mm_E) (n : Nat) (J : mm_J) (G : mm_G) (H : Heap) : Prop := H.size = mm_b E + n ∧ ∀ i, i < n → mm_at E i H (mm_SH i) (J i) (G i)
def mm_tys (E : mm_E) : List (ClassId × FieldType) := (List.range mm_ty.length).map (fun t => (mm_cA E t, mm_ty.getD t .int))
def mm_K (E : mm_E) (s : State) : Prop := va_K (mm_D E) mm_cl (mm_tys E) s ∧ mm_X s
theorem mm_K.warm {E : mm_E} {s U : State} (hW : s.WarmedH U.vm) (h : mm_K E s) : mm_K E U := ⟨va_K.moved hW.alike h.1, mm_X_warm hW h.2⟩
def mm_A (E : mm_E) : Nat → Prop := fun q => mm_b E ≤ q
def mm_ok (M : mm_M) : Prop := (∀ pc i n, mm_d M pc = some (i, n) → decode (mm_c M) pc = .ok (i, n)) ∧
  ∀ idx ci k, mm_f M idx = some (ci, k) → ∃ C T N, mm_cl[ci]? = some (C, T, N) ∧ k < N ∧ Cond.fieldLink (mm_y M).cls idx (T k).1 (T k).2.1 (T k).2.2.1 ∈ lw_t2
def mm_Cx (E : mm_E) (M : mm_M) (p : Program) (s : State) (m : MethodId) (args : Array Value) (meth : Method) (c : Code) : Prop :=
  p.tables.exec = Jvm.exec ∧ c.code = mm_c M ∧ meth.sig.returnType = mm_r M ∧ c.maxLocals = mm_n M ∧ s.vm.findClass (mm_y M).cls = some m.cls ∧ meth.locks = false ∧ (∀ w ∈ lw_t2, w.before args s = true) ∧ ((mm_y M).name = "<init>" → meth.name = "<init>") ∧ mm_K E s ∧ mm_b E ≤ s.heap.size ∧ mm_ok M
def mm_L (E : mm_E) (nL : Nat) (lv : List (Option Value)) (ls : Array Slot) : Prop := ls.size = nL ∧ lv_wf ls ∧ ∀ (i : Nat) (v : Value), lv[i]? = some (some v) → v.category = 1 ∧ ls[i]? = some (Slot.val (mm_v E v))
abbrev mm_T : Type := Option Value → Nat → mm_J → mm_G → Prop
def mm_Q (E : mm_E) (Post : mm_T) : Array Value → State → Outcome → State → Prop := fun _ st oc t => ∃ r n J G, oc = .returned (Option.map (mm_v E) r) ∧ Post r n J G ∧ mm_W E n J G t.heap ∧ ∀ q, q < mm_b E → t.heap[q]? = st.heap[q]?
abbrev mm_F : Type := (State → Prop) × (List Frame → Array Value → State → State → Prop)
abbrev mm_Fm (E : mm_E) (M : mm_M) (Post : mm_T) : mm_F := (fun _ => True, fun below args s => MQ below (mm_Q E Post) args s (mm_R M).cells (mm_R M).slots (mm_A E))
def mm_Go (E : mm_E) (M : mm_M) (pc : Nat) (lv : List (Option Value)) (st : List Value) (n : Nat) (J : mm_J) (G : mm_G) (cs sl : Nat) (F : mm_F) : Prop :=
  ∀ (p : Program) (e : Env) (s : State) (m : MethodId) (args : Array Value) (below : List Frame) (meth : Method) (c : Code) (H : Heap) (locs : List Loc) (ls : Array Slot),
    mm_Cx E M p s m args meth c → F.1 s → mm_L E (mm_n M) lv ls → mm_W E n J G H → va_S (mm_A E) s.heap H locs →
    W p (mm_l E) e (mm_R M) s m args below meth c H locs cs sl (F.2 below args s) (F0 m pc ls (st.map (mm_v E)))
def mm_Pc (E : mm_E) (as : List Value) (n : Nat) (J : mm_J) (G : mm_G) : Array Value → State → Prop := va_Pc (as.map (mm_v E)) (fun U => mm_W E n J G U.heap ∧ mm_K E U)
def mm_Met (E : mm_E) (M : mm_M) (as : List Value) (n : Nat) (J : mm_J) (G : mm_G) (Post : mm_T) : Prop :=
  Met (mm_l E) (mm_y M) (mm_w M) (mm_R M) (mm_Pc E as n J G) (mm_Q E Post) (mm_R M).cells (mm_R M).slots (mm_A E)
/-- the method answers r and leaves the memory (n', J', G') -/
def mm_is (r : Option Value) (n' : Nat) (J' : mm_J) (G' : mm_G) : mm_T := fun a b c d => a = r ∧ b = n' ∧ c = J' ∧ d = G'
abbrev mm_Ret (E : mm_E) (M : mm_M) (as : List Value) (n : Nat) (J : mm_J) (G : mm_G) (r : Option Value) (n' : Nat) (J' : mm_J) (G' : mm_G) : Prop := mm_Met E M as n J G (mm_is r n' J' G')
def mm_set (J : mm_J) (i k : Nat) (x : Int32) : mm_J := fun a b => if a = i ∧ b = k then x else J a b
def mm_sg (G : mm_G) (i k : Nat) (x : Option Nat) : mm_G := fun a b => if a = i ∧ b = k then x else G a b
def mm_cp (J : mm_J) (i j sp dp n : Nat) : mm_J := fun a b => if a = j then va_cpy (J i) (J j) sp dp n b else J a b
def mm_z (J : mm_J) (i : Nat) : mm_J := fun a b => if a = i then 0 else J a b
def mm_zg (G : mm_G) (i : Nat) : mm_G := fun a b => if a = i then none else G a b
theorem mm_set_at (J : mm_J) (i k : Nat) (x : Int32) : mm_set J i k x i = upd (J i) k x := by
  funext b
  simp [mm_set, upd]
theorem mm_set_ne (J : mm_J) {i a : Nat} (k : Nat) (x : Int32) (h : a ≠ i) : mm_set J i k x a = J a := by
  funext b
  simp [mm_set, h]
theorem mm_sg_at (G : mm_G) (i k : Nat) (x : Option Nat) : mm_sg G i k x i = va_up (G i) k x := by
  funext b
  simp [mm_sg, va_up]
theorem mm_sg_ne (G : mm_G) {i a : Nat} (k : Nat) (x : Option Nat) (h : a ≠ i) : mm_sg G i k x a = G a := by
  funext b
  simp [mm_sg, h]
theorem mm_at.kept {E : mm_E} {i : Nat} {H H1 : Heap} {sh : Nat ⊕ (Nat × Nat)} {j : Nat → Int32} {g : Nat → Option Nat} (h : mm_at E i H sh j g) (hq : H1[mm_b E + i]? = H[mm_b E + i]?) : mm_at E i H1 sh j g := by
  cases sh with
  | inl ci => exact t_OB.kept h hq
  | inr q => exact hq.trans h
/-- one cell has changed -/
theorem mm_W.chg {E : mm_E} {n i : Nat} {J J' : mm_J} {G G' : mm_G} {H H1 : Heap} (h : mm_W E n J G H) (z : H1.size = H.size) (oq : ∀ q : Nat, q ≠ mm_b E + i → H1[q]? = H[q]?) (hJ : ∀ a, a ≠ i → J' a = J a) (hG : ∀ a, a ≠ i → G' a = G a) (he : mm_at E i H1 (mm_SH i) (J' i) (G' i)) : mm_W E n J' G' H1 := by
  refine ⟨by rw [z]; exact h.1, fun a ha => ?_⟩
  by_cases hai : a = i
  · subst hai
    exact he
  · rw [hJ a hai, hG a hai]
    exact (h.2 a ha).kept (oq _ (by omega))
/-- a cell has come -/
theorem mm_W.push {E : mm_E} {n : Nat} {J J' : mm_J} {G G' : mm_G} {H H1 : Heap} (h : mm_W E n J G H) (z : H1.size = H.size + 1) (oq : ∀ q : Nat, q < H.size → H1[q]? = H[q]?) (hJ : ∀ a, a ≠ n → J' a = J a) (hG : ∀ a, a ≠ n → G' a = G a) (he : mm_at E n H1 (mm_SH n) (J' n) (G' n)) : mm_W E (n + 1) J' G' H1 := by
  refine ⟨by rw [z, h.1]; omega, fun a ha => ?_⟩
  by_cases hai : a = n
  · subst hai
    exact he
  · rw [hJ a hai, hG a hai]
    exact (h.2 a (by omega)).kept (oq _ (by rw [h.1]; omega))
theorem mm_S.put {E : mm_E} {H0 H H1 : Heap} {locs : List Loc} {i k : Nat} (h : va_S (mm_A E) H0 H locs) (z : H1.size = H.size) (oq : ∀ q : Nat, q ≠ mm_b E + i → H1[q]? = H[q]?) : va_S (mm_A E) H0 H1 (locs ++ [⟨mm_b E + i, k⟩]) := h.put z oq (by show mm_b E ≤ mm_b E + i; omega)
theorem mm_S.push {E : mm_E} {H0 H H1 : Heap} {locs : List Loc} (h : va_S (mm_A E) H0 H locs) (z : H1.size = H.size + 1) (oq : ∀ q : Nat, q < H.size → H1[q]? = H[q]?) : va_S (mm_A E) H0 H1 locs :=
  ⟨Nat.le_trans h.1 (by omega), fun q h1 h2 => (oq q (Nat.lt_of_lt_of_le h1 h.1)).trans (h.2.1 q h1 h2), h.2.2⟩
theorem mm_sl : ∀ (vs : List Value), (∀ v ∈ vs, v.category = 1) → lg_sl vs = vs.map Slot.val
  | [], _ => rfl
  | v :: vs, h => by
    have h1 : v.category = 1 := h v List.mem_cons_self
    have h2 := mm_sl vs (fun w hw => h w (List.mem_cons_of_mem _ hw))
    unfold lg_sl at h2 ⊢
    rw [List.flatMap_cons, h2, if_neg (by omega)]
    rfl
def mm_lv (E : mm_E) (lv : List (Option Value)) : List (Nat × Value) := (List.range lv.length).filterMap (fun j => match lv[j]? with
  | some (some w) => some (j, mm_v E w)
  | _ => none)
theorem mm_lv_in {E : mm_E} {lv : List (Option Value)} {q : Nat × Value} (h : q ∈ mm_lv E lv) : ∃ w, lv[q.1]? = some (some w) ∧ q.2 = mm_v E w := by
  obtain ⟨j, -, hj⟩ := List.mem_filterMap.mp h
  split at hj
  · rename_i w hw
    cases hj
    exact ⟨w, hw, rfl⟩
  · cases hj
theorem mm_in_lv {E : mm_E} {lv : List (Option Value)} {j : Nat} {w : Value} (h : lv[j]? = some (some w)) : (j, mm_v E w) ∈ mm_lv E lv := by
  refine List.mem_filterMap.mpr ⟨j, List.mem_range.mpr (List.getElem?_eq_some_iff.mp h).1, ?_⟩
  rw [h]
theorem mm_L.has {E : mm_E} {nL : Nat} {lv : List (Option Value)} {ls : Array Slot} (h : mm_L E nL lv ls) : lv_has ls nL (mm_lv E lv) := by
  refine ⟨h.1, h.2.1, fun q hq => ?_⟩
  obtain ⟨w, h1, h2⟩ := mm_lv_in hq
  rw [h2]
  exact (h.2.2 _ _ h1).2
theorem mm_L.stored {E : mm_E} {nL i : Nat} {v : Value} {lv : List (Option Value)} {ls ls' : Array Slot} (h : mm_L E nL lv ls) (hc : v.category = 1) (h' : lv_has ls' nL ((i, mm_v E v) :: (mm_lv E lv).filter (fun q => !(q.1 == i) && !(q.1 + 1 == i && q.2.category == 2)))) : mm_L E nL (lv.set i (some v)) ls' := by
  refine ⟨h'.1, h'.2.1, fun j w hw => ?_⟩
  rw [List.getElem?_set] at hw
  split at hw
  · rename_i hij
    subst hij
    split at hw
    · cases hw
      exact ⟨hc, h'.2.2 (i, mm_v E v) List.mem_cons_self⟩
    · cases hw
  · rename_i hij
    have hcat := (h.2.2 j w hw).1
    refine ⟨hcat, h'.2.2 (j, mm_v E w) (List.mem_cons_of_mem _ (List.mem_filter.mpr ⟨mm_in_lv hw, ?_⟩))⟩
    have e1 : (j == i) = false := by simp; omega
    have e2 : ((mm_v E w).category == 2) = false := by rw [mm_cat, hcat]; rfl
    simp [e1, e2]
theorem mm_L.entry {E : mm_E} {nL : Nat} (as : List Value) (hc : ∀ v ∈ as, v.category = 1) (hn : as.length ≤ nL) : mm_L E nL (as.map some ++ List.replicate (nL - as.length) none) ((lg_sl (as.map (mm_v E)) ++ List.replicate (nL - (lg_sl (as.map (mm_v E))).length) Slot.unset).toArray) := by
  have hs : lg_sl (as.map (mm_v E)) = (as.map (mm_v E)).map Slot.val := mm_sl _ (fun v hv => by
    obtain ⟨w, hw, rfl⟩ := List.mem_map.mp hv
    rw [mm_cat]
    exact hc w hw)
  have h0 := lv_entry (as.map (mm_v E)) (n := nL) (by rw [hs]; simp; exact hn)
  refine ⟨h0.1, h0.2.1, fun i v hv => ?_⟩
  have hi : i < as.length := by
    rcases Nat.lt_or_ge i as.length with q | q
    · exact q
    · rw [List.getElem?_append_right (by simp; exact q)] at hv
      simp [List.getElem?_replicate] at hv
  rw [List.getElem?_append_left (by simp; exact hi), List.getElem?_map, List.getElem?_eq_getElem hi] at hv
  simp only [Option.map_some, Option.some.injEq] at hv
  have hm : v ∈ as := by rw [← hv]; exact List.getElem_mem hi
  refine ⟨hc v hm, ?_⟩
  rw [hs]
  simp [List.getElem?_append, hi, hv]
theorem mm_tys_at {E : mm_E} {t : Nat} (h : t < mm_ty.length) : (mm_tys E)[t]? = some (mm_cA E t, mm_ty.getD t .int) := by
  unfold mm_tys
  rw [List.getElem?_map, List.getElem?_range h]
  rfl
theorem mm_Met.of {E : mm_E} {M : mm_M} {as : List Value} {n : Nat} {J : mm_J} {G : mm_G} {Post : mm_T} (hok : mm_ok M) (hpl : plainName (mm_y M).cls = true) (hc : ∀ v ∈ as, v.category = 1) (hn : as.length ≤ mm_n M) (h : mm_Go E M 0 (as.map some ++ List.replicate (mm_n M - as.length) none) [] n J G 0 0 (mm_Fm E M Post)) : mm_Met E M as n J G Post := by
  refine Met.ofW (cc := mm_c M) (maxL := mm_n M) (ret := mm_r M) hpl rfl ?_
  intro p e s m a below meth c s₁ B hml hv
  obtain ⟨rfl, hW, hK⟩ := hv
  rw [lg_entry_eq]
  exact h p e s m _ below meth c s.heap [] _ ⟨B.exec, B.bytes, B.returns, hml, findClass_of_methodNamed B.named, B.notSynchronized, fun w hw => atoms_spec (ws := mm_w M) B.pre w (List.mem_cons_of_mem _ hw), fun e9 => (name_of_methodNamed B.named B.method).1.trans e9, hK, by rw [hW.1]; omega, hok⟩ trivial (mm_L.entry as hc hn) hW va_S.rf
theorem mm_blind {E : mm_E} {as : List Value} {n : Nat} {J : mm_J} {G : mm_G} : FrameBlind (mm_Pc E as n J G) := fun a U g mk q => ⟨q.1, q.2.1, va_K.moved (u := U) (U := U.calling g mk a) (Vm.Alike.refl U.vm) q.2.2.1, mm_X_same (U := U.calling g mk a) rfl q.2.2.2⟩

section MMR
variable {E : mm_E} {M : mm_M} {pc n cs sl : Nat} {lv : List (Option Value)} {st : List Value} {J : mm_J} {G : mm_G} {F : mm_F}
theorem mm_iconst {z : Int} {v : Int32} (hc : mm_d M pc = some (.iconst z, 1)) (hv : Int32.ofInt z = v) (k : mm_Go E M (pc + 1) lv (.int v :: st) n J G cs sl F) : mm_Go E M (pc) lv (st) n J G cs sl F := by
  intro p e s m args below meth c H locs ls C hY hL hW hS
  obtain ⟨hx, hb, hr, hml, hown, hlk, hts, hnm, ⟨hK, hX9⟩, hbs, hok⟩ := id C
  exact lv_iconst hx hb (hok.1 _ _ _ hc) hv (k p e s m args below meth c H locs ls C hY hL hW hS)
theorem mm_bipush {z : Int} {v : Int32} (hc : mm_d M pc = some (.bipush z, 2)) (hv : (Int8.ofInt z).toInt32 = v) (k : mm_Go E M (pc + 2) lv (.int v :: st) n J G cs sl F) : mm_Go E M (pc) lv (st) n J G cs sl F := by
  intro p e s m args below meth c H locs ls C hY hL hW hS
  obtain ⟨hx, hb, hr, hml, hown, hlk, hts, hnm, ⟨hK, hX9⟩, hbs, hok⟩ := id C
  exact lv_bipush hx hb (hok.1 _ _ _ hc) hv (k p e s m args below meth c H locs ls C hY hL hW hS)
theorem mm_sipush {z : Int} {v : Int32} (hc : mm_d M pc = some (.sipush z, 3)) (hv : (Int16.ofInt z).toInt32 = v) (k : mm_Go E M (pc + 3) lv (.int v :: st) n J G cs sl F) : mm_Go E M (pc) lv (st) n J G cs sl F := by
  intro p e s m args below meth c H locs ls C hY hL hW hS
  obtain ⟨hx, hb, hr, hml, hown, hlk, hts, hnm, ⟨hK, hX9⟩, hbs, hok⟩ := id C
  exact lv_sipush hx hb (hok.1 _ _ _ hc) hv (k p e s m args below meth c H locs ls C hY hL hW hS)
theorem mm_ldc {idx : Nat} {v : Int32} (hc : mm_d M pc = some (.ldc idx, 2)) (hv : Cond.constant (mm_y M).cls idx v ∈ lw_t2) (k : mm_Go E M (pc + 2) lv (.int v :: st) n J G cs sl F) : mm_Go E M (pc) lv (st) n J G cs sl F := by
  intro p e s m args below meth c H locs ls C hY hL hW hS
  obtain ⟨hx, hb, hr, hml, hown, hlk, hts, hnm, ⟨hK, hX9⟩, hbs, hok⟩ := id C
  exact lv_ldc hx hb hown (hts _ hv) (hok.1 _ _ _ hc) (k p e s m args below meth c H locs ls C hY hL hW hS)
theorem mm_iload_n {i : Fin 4} {x : Int32} (hc : mm_d M pc = some (.iload_n i, 1)) (hl : lv[i.val]? = some (some (.int x))) (k : mm_Go E M (pc + 1) lv (.int x :: st) n J G cs sl F) : mm_Go E M (pc) lv (st) n J G cs sl F := by
  intro p e s m args below meth c H locs ls C hY hL hW hS
  obtain ⟨hx, hb, hr, hml, hown, hlk, hts, hnm, ⟨hK, hX9⟩, hbs, hok⟩ := id C
  exact lv_iload_n hx hb (hok.1 _ _ _ hc) rfl (hL.2.2 _ _ hl).2 (k p e s m args below meth c H locs ls C hY hL hW hS)
theorem mm_iload {i : Nat} {x : Int32} (hc : mm_d M pc = some (.iload i, 2)) (hl : lv[i]? = some (some (.int x))) (k : mm_Go E M (pc + 2) lv (.int x :: st) n J G cs sl F) : mm_Go E M (pc) lv (st) n J G cs sl F := by
  intro p e s m args below meth c H locs ls C hY hL hW hS
  obtain ⟨hx, hb, hr, hml, hown, hlk, hts, hnm, ⟨hK, hX9⟩, hbs, hok⟩ := id C
  exact lv_iload hx hb (hok.1 _ _ _ hc) (hL.2.2 _ _ hl).2 (k p e s m args below meth c H locs ls C hY hL hW hS)
theorem mm_aload_n {i : Fin 4} {x : Nat} (hc : mm_d M pc = some (.aload_n i, 1)) (hl : lv[i.val]? = some (some (.ref x))) (k : mm_Go E M (pc + 1) lv (.ref x :: st) n J G cs sl F) : mm_Go E M (pc) lv (st) n J G cs sl F := by
  intro p e s m args below meth c H locs ls C hY hL hW hS
  obtain ⟨hx, hb, hr, hml, hown, hlk, hts, hnm, ⟨hK, hX9⟩, hbs, hok⟩ := id C
  exact lv_aload_n hx hb (hok.1 _ _ _ hc) rfl (hL.2.2 _ _ hl).2 (k p e s m args below meth c H locs ls C hY hL hW hS)
theorem mm_aload {i : Nat} {x : Nat} (hc : mm_d M pc = some (.aload i, 2)) (hl : lv[i]? = some (some (.ref x))) (k : mm_Go E M (pc + 2) lv (.ref x :: st) n J G cs sl F) : mm_Go E M (pc) lv (st) n J G cs sl F := by
  intro p e s m args below meth c H locs ls C hY hL hW hS
  obtain ⟨hx, hb, hr, hml, hown, hlk, hts, hnm, ⟨hK, hX9⟩, hbs, hok⟩ := id C
  exact lv_aload hx hb (hok.1 _ _ _ hc) (hL.2.2 _ _ hl).2 (k p e s m args below meth c H locs ls C hY hL hW hS)
theorem mm_istore_n {i : Fin 4} {x : Int32} (hc : mm_d M pc = some (.istore_n i, 1)) (hn : i.val < mm_n M) (k : mm_Go E M (pc + 1) (lv.set i.val (some (.int x))) (st) n J G cs sl F) : mm_Go E M (pc) lv (.int x :: st) n J G cs sl F := by
  intro p e s m args below meth c H locs ls C hY hL hW hS
  obtain ⟨hx, hb, hr, hml, hown, hlk, hts, hnm, ⟨hK, hX9⟩, hbs, hok⟩ := id C
  exact lv_istore_n hx hb (hok.1 _ _ _ hc) rfl hL.has hn rfl (fun ls' h' => k p e s m args below meth c H locs ls' C hY (hL.stored (v := .int x) rfl h') hW hS)
theorem mm_istore {i : Nat} {x : Int32} (hc : mm_d M pc = some (.istore i, 2)) (hn : i < mm_n M) (k : mm_Go E M (pc + 2) (lv.set i (some (.int x))) (st) n J G cs sl F) : mm_Go E M (pc) lv (.int x :: st) n J G cs sl F := by
  intro p e s m args below meth c H locs ls C hY hL hW hS
  obtain ⟨hx, hb, hr, hml, hown, hlk, hts, hnm, ⟨hK, hX9⟩, hbs, hok⟩ := id C
  exact lv_istore hx hb (hok.1 _ _ _ hc) hL.has hn rfl (fun ls' h' => k p e s m args below meth c H locs ls' C hY (hL.stored (v := .int x) rfl h') hW hS)
theorem mm_astore_n {i : Fin 4} {x : Nat} (hc : mm_d M pc = some (.astore_n i, 1)) (hn : i.val < mm_n M) (k : mm_Go E M (pc + 1) (lv.set i.val (some (.ref x))) (st) n J G cs sl F) : mm_Go E M (pc) lv (.ref x :: st) n J G cs sl F := by
  intro p e s m args below meth c H locs ls C hY hL hW hS
  obtain ⟨hx, hb, hr, hml, hown, hlk, hts, hnm, ⟨hK, hX9⟩, hbs, hok⟩ := id C
  exact lv_astore_n hx hb (hok.1 _ _ _ hc) rfl hL.has hn rfl (fun ls' h' => k p e s m args below meth c H locs ls' C hY (hL.stored (v := .ref x) rfl h') hW hS)
theorem mm_astore {i : Nat} {x : Nat} (hc : mm_d M pc = some (.astore i, 2)) (hn : i < mm_n M) (k : mm_Go E M (pc + 2) (lv.set i (some (.ref x))) (st) n J G cs sl F) : mm_Go E M (pc) lv (.ref x :: st) n J G cs sl F := by
  intro p e s m args below meth c H locs ls C hY hL hW hS
  obtain ⟨hx, hb, hr, hml, hown, hlk, hts, hnm, ⟨hK, hX9⟩, hbs, hok⟩ := id C
  exact lv_astore hx hb (hok.1 _ _ _ hc) hL.has hn rfl (fun ls' h' => k p e s m args below meth c H locs ls' C hY (hL.stored (v := .ref x) rfl h') hW hS)
theorem mm_iinc {i : Nat} {z : Int} {x v : Int32} (hc : mm_d M pc = some (.iinc i z, 3)) (hl : lv[i]? = some (some (.int x))) (hv : x + Int32.ofInt z = v) (hn : i < mm_n M) (k : mm_Go E M (pc + 3) (lv.set i (some (.int v))) (st) n J G cs sl F) : mm_Go E M (pc) lv (st) n J G cs sl F := by
  intro p e s m args below meth c H locs ls C hY hL hW hS
  obtain ⟨hx, hb, hr, hml, hown, hlk, hts, hnm, ⟨hK, hX9⟩, hbs, hok⟩ := id C
  obtain ⟨q, hq⟩ := List.getElem?_of_mem (mm_in_lv (E := E) hl)
  exact lv_iinc hx hb (hok.1 _ _ _ hc) hL.has hq hv hn rfl (fun ls' h' => k p e s m args below meth c H locs ls' C hY (hL.stored (v := .int v) rfl h') hW hS)
theorem mm_iadd {x y : Int32} (hc : mm_d M pc = some (.iadd, 1)) (k : mm_Go E M (pc + 1) lv (.int (x + y) :: st) n J G cs sl F) : mm_Go E M (pc) lv (.int y :: .int x :: st) n J G cs sl F := by
  intro p e s m args below meth c H locs ls C hY hL hW hS
  obtain ⟨hx, hb, hr, hml, hown, hlk, hts, hnm, ⟨hK, hX9⟩, hbs, hok⟩ := id C
  exact lv_iadd hx hb (hok.1 _ _ _ hc) (k p e s m args below meth c H locs ls C hY hL hW hS)
theorem mm_isub {x y : Int32} (hc : mm_d M pc = some (.isub, 1)) (k : mm_Go E M (pc + 1) lv (.int (x - y) :: st) n J G cs sl F) : mm_Go E M (pc) lv (.int y :: .int x :: st) n J G cs sl F := by
  intro p e s m args below meth c H locs ls C hY hL hW hS
  obtain ⟨hx, hb, hr, hml, hown, hlk, hts, hnm, ⟨hK, hX9⟩, hbs, hok⟩ := id C
  exact lv_isub hx hb (hok.1 _ _ _ hc) (k p e s m args below meth c H locs ls C hY hL hW hS)
theorem mm_imul {x y : Int32} (hc : mm_d M pc = some (.imul, 1)) (k : mm_Go E M (pc + 1) lv (.int (x * y) :: st) n J G cs sl F) : mm_Go E M (pc) lv (.int y :: .int x :: st) n J G cs sl F := by
  intro p e s m args below meth c H locs ls C hY hL hW hS
  obtain ⟨hx, hb, hr, hml, hown, hlk, hts, hnm, ⟨hK, hX9⟩, hbs, hok⟩ := id C
  exact lv_imul hx hb (hok.1 _ _ _ hc) (k p e s m args below meth c H locs ls C hY hL hW hS)
theorem mm_iand {x y : Int32} (hc : mm_d M pc = some (.iand, 1)) (k : mm_Go E M (pc + 1) lv (.int (x &&& y) :: st) n J G cs sl F) : mm_Go E M (pc) lv (.int y :: .int x :: st) n J G cs sl F := by
  intro p e s m args below meth c H locs ls C hY hL hW hS
  obtain ⟨hx, hb, hr, hml, hown, hlk, hts, hnm, ⟨hK, hX9⟩, hbs, hok⟩ := id C
  exact lv_iand hx hb (hok.1 _ _ _ hc) (k p e s m args below meth c H locs ls C hY hL hW hS)
theorem mm_ior {x y : Int32} (hc : mm_d M pc = some (.ior, 1)) (k : mm_Go E M (pc + 1) lv (.int (x ||| y) :: st) n J G cs sl F) : mm_Go E M (pc) lv (.int y :: .int x :: st) n J G cs sl F := by
  intro p e s m args below meth c H locs ls C hY hL hW hS
  obtain ⟨hx, hb, hr, hml, hown, hlk, hts, hnm, ⟨hK, hX9⟩, hbs, hok⟩ := id C
  exact lv_ior hx hb (hok.1 _ _ _ hc) (k p e s m args below meth c H locs ls C hY hL hW hS)
theorem mm_ixor {x y : Int32} (hc : mm_d M pc = some (.ixor, 1)) (k : mm_Go E M (pc + 1) lv (.int (x ^^^ y) :: st) n J G cs sl F) : mm_Go E M (pc) lv (.int y :: .int x :: st) n J G cs sl F := by
  intro p e s m args below meth c H locs ls C hY hL hW hS
  obtain ⟨hx, hb, hr, hml, hown, hlk, hts, hnm, ⟨hK, hX9⟩, hbs, hok⟩ := id C
  exact lv_ixor hx hb (hok.1 _ _ _ hc) (k p e s m args below meth c H locs ls C hY hL hW hS)
theorem mm_ishl {x y : Int32} (hc : mm_d M pc = some (.ishl, 1)) (k : mm_Go E M (pc + 1) lv (.int (x <<< (y &&& 31)) :: st) n J G cs sl F) : mm_Go E M (pc) lv (.int y :: .int x :: st) n J G cs sl F := by
  intro p e s m args below meth c H locs ls C hY hL hW hS
  obtain ⟨hx, hb, hr, hml, hown, hlk, hts, hnm, ⟨hK, hX9⟩, hbs, hok⟩ := id C
  exact lv_ishl hx hb (hok.1 _ _ _ hc) (k p e s m args below meth c H locs ls C hY hL hW hS)
theorem mm_ishr {x y : Int32} (hc : mm_d M pc = some (.ishr, 1)) (k : mm_Go E M (pc + 1) lv (.int (x >>> (y &&& 31)) :: st) n J G cs sl F) : mm_Go E M (pc) lv (.int y :: .int x :: st) n J G cs sl F := by
  intro p e s m args below meth c H locs ls C hY hL hW hS
  obtain ⟨hx, hb, hr, hml, hown, hlk, hts, hnm, ⟨hK, hX9⟩, hbs, hok⟩ := id C
  exact lv_ishr hx hb (hok.1 _ _ _ hc) (k p e s m args below meth c H locs ls C hY hL hW hS)
theorem mm_idiv {x y : Int32} (hc : mm_d M pc = some (.idiv, 1)) (h0 : ¬ y = 0) (k : mm_Go E M (pc + 1) lv (.int (x / y) :: st) n J G cs sl F) : mm_Go E M (pc) lv (.int y :: .int x :: st) n J G cs sl F := by
  intro p e s m args below meth c H locs ls C hY hL hW hS
  obtain ⟨hx, hb, hr, hml, hown, hlk, hts, hnm, ⟨hK, hX9⟩, hbs, hok⟩ := id C
  exact lv_idiv hx hb (hok.1 _ _ _ hc) h0 (k p e s m args below meth c H locs ls C hY hL hW hS)
theorem mm_irem {x y : Int32} (hc : mm_d M pc = some (.irem, 1)) (h0 : ¬ y = 0) (k : mm_Go E M (pc + 1) lv (.int (x - x / y * y) :: st) n J G cs sl F) : mm_Go E M (pc) lv (.int y :: .int x :: st) n J G cs sl F := by
  intro p e s m args below meth c H locs ls C hY hL hW hS
  obtain ⟨hx, hb, hr, hml, hown, hlk, hts, hnm, ⟨hK, hX9⟩, hbs, hok⟩ := id C
  exact lv_irem hx hb (hok.1 _ _ _ hc) h0 (k p e s m args below meth c H locs ls C hY hL hW hS)
theorem mm_ineg {x : Int32} (hc : mm_d M pc = some (.ineg, 1)) (k : mm_Go E M (pc + 1) lv (.int (-x) :: st) n J G cs sl F) : mm_Go E M (pc) lv (.int x :: st) n J G cs sl F := by
  intro p e s m args below meth c H locs ls C hY hL hW hS
  obtain ⟨hx, hb, hr, hml, hown, hlk, hts, hnm, ⟨hK, hX9⟩, hbs, hok⟩ := id C
  exact lv_ineg hx hb (hok.1 _ _ _ hc) (k p e s m args below meth c H locs ls C hY hL hW hS)
theorem mm_dup {a : Value} (hc : mm_d M pc = some (.dup, 1)) (h1 : a.category = 1) (k : mm_Go E M (pc + 1) lv (a :: a :: st) n J G cs sl F) : mm_Go E M (pc) lv (a :: st) n J G cs sl F := by
  intro p e s m args below meth c H locs ls C hY hL hW hS
  obtain ⟨hx, hb, hr, hml, hown, hlk, hts, hnm, ⟨hK, hX9⟩, hbs, hok⟩ := id C
  exact lv_dup hx hb (hok.1 _ _ _ hc) ((mm_cat E a).trans h1) (k p e s m args below meth c H locs ls C hY hL hW hS)
theorem mm_pop {a : Value} (hc : mm_d M pc = some (.pop, 1)) (h1 : a.category = 1) (k : mm_Go E M (pc + 1) lv (st) n J G cs sl F) : mm_Go E M (pc) lv (a :: st) n J G cs sl F := by
  intro p e s m args below meth c H locs ls C hY hL hW hS
  obtain ⟨hx, hb, hr, hml, hown, hlk, hts, hnm, ⟨hK, hX9⟩, hbs, hok⟩ := id C
  exact lv_pop hx hb (hok.1 _ _ _ hc) ((mm_cat E a).trans h1) (k p e s m args below meth c H locs ls C hY hL hW hS)
theorem mm_dup_x1 {a b : Value} (hc : mm_d M pc = some (.dup_x1, 1)) (h1 : a.category = 1) (h2 : b.category = 1) (k : mm_Go E M (pc + 1) lv (a :: b :: a :: st) n J G cs sl F) : mm_Go E M (pc) lv (a :: b :: st) n J G cs sl F := by
  intro p e s m args below meth c H locs ls C hY hL hW hS
  obtain ⟨hx, hb, hr, hml, hown, hlk, hts, hnm, ⟨hK, hX9⟩, hbs, hok⟩ := id C
  exact lv_dup_x1 hx hb (hok.1 _ _ _ hc) ((mm_cat E a).trans h1) ((mm_cat E b).trans h2) (k p e s m args below meth c H locs ls C hY hL hW hS)
theorem mm_dup_x2 {a b d : Value} (hc : mm_d M pc = some (.dup_x2, 1)) (h1 : a.category = 1) (h2 : b.category = 1) (h3 : d.category = 1) (k : mm_Go E M (pc + 1) lv (a :: b :: d :: a :: st) n J G cs sl F) : mm_Go E M (pc) lv (a :: b :: d :: st) n J G cs sl F := by
  intro p e s m args below meth c H locs ls C hY hL hW hS
  obtain ⟨hx, hb, hr, hml, hown, hlk, hts, hnm, ⟨hK, hX9⟩, hbs, hok⟩ := id C
  exact lv_dup_x2 hx hb (hok.1 _ _ _ hc) ((mm_cat E a).trans h1) ((mm_cat E b).trans h2) ((mm_cat E d).trans h3) (k p e s m args below meth c H locs ls C hY hL hW hS)
theorem mm_dup2 {a b : Value} (hc : mm_d M pc = some (.dup2, 1)) (h1 : a.category = 1) (h2 : b.category = 1) (k : mm_Go E M (pc + 1) lv (a :: b :: a :: b :: st) n J G cs sl F) : mm_Go E M (pc) lv (a :: b :: st) n J G cs sl F := by
  intro p e s m args below meth c H locs ls C hY hL hW hS
  obtain ⟨hx, hb, hr, hml, hown, hlk, hts, hnm, ⟨hK, hX9⟩, hbs, hok⟩ := id C
  exact lv_dup2_11 hx hb (hok.1 _ _ _ hc) ((mm_cat E a).trans h1) ((mm_cat E b).trans h2) (k p e s m args below meth c H locs ls C hY hL hW hS)
theorem mm_if_eq {x : Int32} {off : Int} {tgt : Nat} (hc : mm_d M pc = some (.ifCond .eq off, 3)) (ht : (pc : Int) + off = (tgt : Int)) (kt : x = 0 → mm_Go E M (tgt) lv (st) n J G cs sl F) (kf : ¬ x = 0 → mm_Go E M (pc + 3) lv (st) n J G cs sl F) : mm_Go E M (pc) lv (.int x :: st) n J G cs sl F := by
  intro p e s m args below meth c H locs ls C hY hL hW hS
  obtain ⟨hx, hb, hr, hml, hown, hlk, hts, hnm, ⟨hK, hX9⟩, hbs, hok⟩ := id C
  exact lv_if_eq hx hb (hok.1 _ _ _ hc) ht (fun h => kt h p e s m args below meth c H locs ls C hY hL hW hS) (fun h => kf h p e s m args below meth c H locs ls C hY hL hW hS)
theorem mm_if_ne {x : Int32} {off : Int} {tgt : Nat} (hc : mm_d M pc = some (.ifCond .ne off, 3)) (ht : (pc : Int) + off = (tgt : Int)) (kt : ¬ x = 0 → mm_Go E M (tgt) lv (st) n J G cs sl F) (kf : x = 0 → mm_Go E M (pc + 3) lv (st) n J G cs sl F) : mm_Go E M (pc) lv (.int x :: st) n J G cs sl F := by
  intro p e s m args below meth c H locs ls C hY hL hW hS
  obtain ⟨hx, hb, hr, hml, hown, hlk, hts, hnm, ⟨hK, hX9⟩, hbs, hok⟩ := id C
  exact lv_if_ne hx hb (hok.1 _ _ _ hc) ht (fun h => kt h p e s m args below meth c H locs ls C hY hL hW hS) (fun h => kf h p e s m args below meth c H locs ls C hY hL hW hS)
theorem mm_if_lt {x : Int32} {off : Int} {tgt : Nat} (hc : mm_d M pc = some (.ifCond .lt off, 3)) (ht : (pc : Int) + off = (tgt : Int)) (kt : x < 0 → mm_Go E M (tgt) lv (st) n J G cs sl F) (kf : ¬ x < 0 → mm_Go E M (pc + 3) lv (st) n J G cs sl F) : mm_Go E M (pc) lv (.int x :: st) n J G cs sl F := by
  intro p e s m args below meth c H locs ls C hY hL hW hS
  obtain ⟨hx, hb, hr, hml, hown, hlk, hts, hnm, ⟨hK, hX9⟩, hbs, hok⟩ := id C
  exact lv_if_lt hx hb (hok.1 _ _ _ hc) ht (fun h => kt h p e s m args below meth c H locs ls C hY hL hW hS) (fun h => kf h p e s m args below meth c H locs ls C hY hL hW hS)
theorem mm_if_ge {x : Int32} {off : Int} {tgt : Nat} (hc : mm_d M pc = some (.ifCond .ge off, 3)) (ht : (pc : Int) + off = (tgt : Int)) (kt : 0 ≤ x → mm_Go E M (tgt) lv (st) n J G cs sl F) (kf : ¬ 0 ≤ x → mm_Go E M (pc + 3) lv (st) n J G cs sl F) : mm_Go E M (pc) lv (.int x :: st) n J G cs sl F := by
  intro p e s m args below meth c H locs ls C hY hL hW hS
  obtain ⟨hx, hb, hr, hml, hown, hlk, hts, hnm, ⟨hK, hX9⟩, hbs, hok⟩ := id C
  exact lv_if_ge hx hb (hok.1 _ _ _ hc) ht (fun h => kt h p e s m args below meth c H locs ls C hY hL hW hS) (fun h => kf h p e s m args below meth c H locs ls C hY hL hW hS)
theorem mm_if_gt {x : Int32} {off : Int} {tgt : Nat} (hc : mm_d M pc = some (.ifCond .gt off, 3)) (ht : (pc : Int) + off = (tgt : Int)) (kt : 0 < x → mm_Go E M (tgt) lv (st) n J G cs sl F) (kf : ¬ 0 < x → mm_Go E M (pc + 3) lv (st) n J G cs sl F) : mm_Go E M (pc) lv (.int x :: st) n J G cs sl F := by
  intro p e s m args below meth c H locs ls C hY hL hW hS
  obtain ⟨hx, hb, hr, hml, hown, hlk, hts, hnm, ⟨hK, hX9⟩, hbs, hok⟩ := id C
  exact lv_if_gt hx hb (hok.1 _ _ _ hc) ht (fun h => kt h p e s m args below meth c H locs ls C hY hL hW hS) (fun h => kf h p e s m args below meth c H locs ls C hY hL hW hS)
theorem mm_if_le {x : Int32} {off : Int} {tgt : Nat} (hc : mm_d M pc = some (.ifCond .le off, 3)) (ht : (pc : Int) + off = (tgt : Int)) (kt : x ≤ 0 → mm_Go E M (tgt) lv (st) n J G cs sl F) (kf : ¬ x ≤ 0 → mm_Go E M (pc + 3) lv (st) n J G cs sl F) : mm_Go E M (pc) lv (.int x :: st) n J G cs sl F := by
  intro p e s m args below meth c H locs ls C hY hL hW hS
  obtain ⟨hx, hb, hr, hml, hown, hlk, hts, hnm, ⟨hK, hX9⟩, hbs, hok⟩ := id C
  exact lv_if_le hx hb (hok.1 _ _ _ hc) ht (fun h => kt h p e s m args below meth c H locs ls C hY hL hW hS) (fun h => kf h p e s m args below meth c H locs ls C hY hL hW hS)
theorem mm_icmp_eq {x y : Int32} {off : Int} {tgt : Nat} (hc : mm_d M pc = some (.if_icmp .eq off, 3)) (ht : (pc : Int) + off = (tgt : Int)) (kt : x = y → mm_Go E M (tgt) lv (st) n J G cs sl F) (kf : ¬ x = y → mm_Go E M (pc + 3) lv (st) n J G cs sl F) : mm_Go E M (pc) lv (.int y :: .int x :: st) n J G cs sl F := by
  intro p e s m args below meth c H locs ls C hY hL hW hS
  obtain ⟨hx, hb, hr, hml, hown, hlk, hts, hnm, ⟨hK, hX9⟩, hbs, hok⟩ := id C
  exact lv_icmp_eq hx hb (hok.1 _ _ _ hc) ht (fun h => kt h p e s m args below meth c H locs ls C hY hL hW hS) (fun h => kf h p e s m args below meth c H locs ls C hY hL hW hS)
theorem mm_icmp_ne {x y : Int32} {off : Int} {tgt : Nat} (hc : mm_d M pc = some (.if_icmp .ne off, 3)) (ht : (pc : Int) + off = (tgt : Int)) (kt : ¬ x = y → mm_Go E M (tgt) lv (st) n J G cs sl F) (kf : x = y → mm_Go E M (pc + 3) lv (st) n J G cs sl F) : mm_Go E M (pc) lv (.int y :: .int x :: st) n J G cs sl F := by
  intro p e s m args below meth c H locs ls C hY hL hW hS
  obtain ⟨hx, hb, hr, hml, hown, hlk, hts, hnm, ⟨hK, hX9⟩, hbs, hok⟩ := id C
  exact lv_icmp_ne hx hb (hok.1 _ _ _ hc) ht (fun h => kt h p e s m args below meth c H locs ls C hY hL hW hS) (fun h => kf h p e s m args below meth c H locs ls C hY hL hW hS)
theorem mm_icmp_lt {x y : Int32} {off : Int} {tgt : Nat} (hc : mm_d M pc = some (.if_icmp .lt off, 3)) (ht : (pc : Int) + off = (tgt : Int)) (kt : x < y → mm_Go E M (tgt) lv (st) n J G cs sl F) (kf : ¬ x < y → mm_Go E M (pc + 3) lv (st) n J G cs sl F) : mm_Go E M (pc) lv (.int y :: .int x :: st) n J G cs sl F := by
  intro p e s m args below meth c H locs ls C hY hL hW hS
  obtain ⟨hx, hb, hr, hml, hown, hlk, hts, hnm, ⟨hK, hX9⟩, hbs, hok⟩ := id C
  exact lv_icmp_lt hx hb (hok.1 _ _ _ hc) ht (fun h => kt h p e s m args below meth c H locs ls C hY hL hW hS) (fun h => kf h p e s m args below meth c H locs ls C hY hL hW hS)
theorem mm_icmp_ge {x y : Int32} {off : Int} {tgt : Nat} (hc : mm_d M pc = some (.if_icmp .ge off, 3)) (ht : (pc : Int) + off = (tgt : Int)) (kt : y ≤ x → mm_Go E M (tgt) lv (st) n J G cs sl F) (kf : ¬ y ≤ x → mm_Go E M (pc + 3) lv (st) n J G cs sl F) : mm_Go E M (pc) lv (.int y :: .int x :: st) n J G cs sl F := by
  intro p e s m args below meth c H locs ls C hY hL hW hS
  obtain ⟨hx, hb, hr, hml, hown, hlk, hts, hnm, ⟨hK, hX9⟩, hbs, hok⟩ := id C
  exact lv_icmp_ge hx hb (hok.1 _ _ _ hc) ht (fun h => kt h p e s m args below meth c H locs ls C hY hL hW hS) (fun h => kf h p e s m args below meth c H locs ls C hY hL hW hS)
theorem mm_icmp_gt {x y : Int32} {off : Int} {tgt : Nat} (hc : mm_d M pc = some (.if_icmp .gt off, 3)) (ht : (pc : Int) + off = (tgt : Int)) (kt : y < x → mm_Go E M (tgt) lv (st) n J G cs sl F) (kf : ¬ y < x → mm_Go E M (pc + 3) lv (st) n J G cs sl F) : mm_Go E M (pc) lv (.int y :: .int x :: st) n J G cs sl F := by
  intro p e s m args below meth c H locs ls C hY hL hW hS
  obtain ⟨hx, hb, hr, hml, hown, hlk, hts, hnm, ⟨hK, hX9⟩, hbs, hok⟩ := id C
  exact lv_icmp_gt hx hb (hok.1 _ _ _ hc) ht (fun h => kt h p e s m args below meth c H locs ls C hY hL hW hS) (fun h => kf h p e s m args below meth c H locs ls C hY hL hW hS)
theorem mm_icmp_le {x y : Int32} {off : Int} {tgt : Nat} (hc : mm_d M pc = some (.if_icmp .le off, 3)) (ht : (pc : Int) + off = (tgt : Int)) (kt : x ≤ y → mm_Go E M (tgt) lv (st) n J G cs sl F) (kf : ¬ x ≤ y → mm_Go E M (pc + 3) lv (st) n J G cs sl F) : mm_Go E M (pc) lv (.int y :: .int x :: st) n J G cs sl F := by
  intro p e s m args below meth c H locs ls C hY hL hW hS
  obtain ⟨hx, hb, hr, hml, hown, hlk, hts, hnm, ⟨hK, hX9⟩, hbs, hok⟩ := id C
  exact lv_icmp_le hx hb (hok.1 _ _ _ hc) ht (fun h => kt h p e s m args below meth c H locs ls C hY hL hW hS) (fun h => kf h p e s m args below meth c H locs ls C hY hL hW hS)
theorem mm_goto {off : Int} {tgt : Nat} (hc : mm_d M pc = some (.goto off, 3)) (ht : (pc : Int) + off = (tgt : Int)) (k : mm_Go E M (tgt) lv (st) n J G cs sl F) : mm_Go E M (pc) lv (st) n J G cs sl F := by
  intro p e s m args below meth c H locs ls C hY hL hW hS
  obtain ⟨hx, hb, hr, hml, hown, hlk, hts, hnm, ⟨hK, hX9⟩, hbs, hok⟩ := id C
  exact lv_goto hx hb (hok.1 _ _ _ hc) ht (k p e s m args below meth c H locs ls C hY hL hW hS)
theorem mm_tableOut {dflt lo hi : Int} {offs : Array Int} {len tgt : Nat} {x : Int32} (hc : mm_d M pc = some (.tableswitch dflt lo hi offs, len)) (h : x.toInt < lo ∨ hi < x.toInt) (ht : (pc : Int) + dflt = (tgt : Int)) (k : mm_Go E M (tgt) lv (st) n J G cs sl F) : mm_Go E M (pc) lv (.int x :: st) n J G cs sl F := by
  intro p e s m args below meth c H locs ls C hY hL hW hS
  obtain ⟨hx, hb, hr, hml, hown, hlk, hts, hnm, ⟨hK, hX9⟩, hbs, hok⟩ := id C
  exact lv_tableOut hx hb (hok.1 _ _ _ hc) h ht (k p e s m args below meth c H locs ls C hY hL hW hS)
theorem mm_tableIn {dflt lo hi off : Int} {offs : Array Int} {len tgt : Nat} {x : Int32} (hc : mm_d M pc = some (.tableswitch dflt lo hi offs, len)) (h1 : ¬ x.toInt < lo) (h2 : ¬ hi < x.toInt) (ho : offs[(x.toInt - lo).toNat]? = some off) (ht : (pc : Int) + off = (tgt : Int)) (k : mm_Go E M (tgt) lv (st) n J G cs sl F) : mm_Go E M (pc) lv (.int x :: st) n J G cs sl F := by
  intro p e s m args below meth c H locs ls C hY hL hW hS
  obtain ⟨hx, hb, hr, hml, hown, hlk, hts, hnm, ⟨hK, hX9⟩, hbs, hok⟩ := id C
  exact lv_tableIn hx hb (hok.1 _ _ _ hc) h1 h2 ho ht (k p e s m args below meth c H locs ls C hY hL hW hS)
theorem mm_lookup {dflt off : Int} {ps : Array (Int × Int)} {len tgt : Nat} {x : Int32} (hc : mm_d M pc = some (.lookupswitch dflt ps, len)) (hp : (ps.toList.zip (ps.toList.drop 1)).all (fun (a, next) => a.1 < next.1) = true) (ho : Op.lookupswitch.offset ps.toList dflt x.toInt = off) (ht : (pc : Int) + off = (tgt : Int)) (k : mm_Go E M (tgt) lv (st) n J G cs sl F) : mm_Go E M (pc) lv (.int x :: st) n J G cs sl F := by
  intro p e s m args below meth c H locs ls C hY hL hW hS
  obtain ⟨hx, hb, hr, hml, hown, hlk, hts, hnm, ⟨hK, hX9⟩, hbs, hok⟩ := id C
  exact lv_lookup hx hb (hok.1 _ _ _ hc) hp ho ht (k p e s m args below meth c H locs ls C hY hL hW hS)
theorem mm_ret0 {Post : mm_T} {r : Option Value} {Hh : Heap} {locs : List Loc} {s : State} (hp : Post r n J G) (hW : mm_W E n J G Hh) (hS : va_S (mm_A E) s.heap Hh locs) (hbs : mm_b E ≤ s.heap.size) {t : State} (ht : t.heap = Hh) (a : Array Value) : mm_Q E Post a s (.returned (Option.map (mm_v E) r)) t :=
  ⟨r, n, J, G, rfl, hp, by rw [ht]; exact hW, fun q hq => by rw [ht]; exact hS.2.1 q (by omega) (by show ¬ mm_b E ≤ q; omega)⟩
theorem mm_ireturn {Post : mm_T} {x : Int32} {ty : FieldType} (hc : mm_d M pc = some (.ireturn, 1)) (hr : mm_r M = some ty) (hn : narrow ty (.int x) = .int x) (h1 : cs ≤ (mm_R M).cells) (h2 : sl ≤ (mm_R M).slots) (hp : Post (some (.int x)) n J G) : mm_Go E M pc lv [.int x] n J G cs sl (mm_Fm E M Post) := by
  intro p e s m args below meth c H locs ls C hY hL hW hS
  obtain ⟨hx, hb, hr', hml, hown, hlk, hts, hnm, ⟨hK, hX9⟩, hbs, hok⟩ := id C
  refine W.widen h1 h2 ?_
  exact W.zret (v := x) (ty := ty) hx hb (hr'.trans hr) hn (fun t ht hw => mm_ret0 hp hW hS hbs ht _) hS.2.2 (hok.1 _ _ _ hc) hlk
theorem mm_return {Post : mm_T} (hc : mm_d M pc = some (.return_, 1)) (hr : mm_r M = none) (h1 : cs ≤ (mm_R M).cells) (h2 : sl ≤ (mm_R M).slots) (hp : Post none n J G) : mm_Go E M pc lv [] n J G cs sl (mm_Fm E M Post) := by
  intro p e s m args below meth c H locs ls C hY hL hW hS
  obtain ⟨hx, hb, hr', hml, hown, hlk, hts, hnm, ⟨hK, hX9⟩, hbs, hok⟩ := id C
  refine W.widen h1 h2 ?_
  exact W.vret hx hb (hr'.trans hr) (fun t ht hw => mm_ret0 hp hW hS hbs ht _) hS.2.2 (hok.1 _ _ _ hc) hlk
theorem mm_areturn {Post : mm_T} {a : Nat} {ty : FieldType} (hc : mm_d M pc = some (.areturn, 1)) (hr : mm_r M = some ty) (hty : (∃ z, ty = .object z) ∨ ∃ t, ty = .array t) (h1 : cs ≤ (mm_R M).cells) (h2 : sl ≤ (mm_R M).slots) (hp : Post (some (.ref a)) n J G) : mm_Go E M pc lv [.ref a] n J G cs sl (mm_Fm E M Post) := by
  intro p e s m args below meth c H locs ls C hY hL hW hS
  obtain ⟨hx, hb, hr', hml, hown, hlk, hts, hnm, ⟨hK, hX9⟩, hbs, hok⟩ := id C
  refine W.widen h1 h2 ?_
  exact W.aret (v := .ref (mm_b E + a)) hx hb (hr'.trans hr) hty (Or.inr ⟨_, rfl⟩) (fun t ht hw => mm_ret0 (r := some (.ref a)) hp hW hS hbs ht _) hS.2.2 (hok.1 _ _ _ hc) hlk

theorem mm_obj {a ci : Nat} {H : Heap} (hW : mm_W E n J G H) (ha : a < n) (hs : mm_SH a = .inl ci) : t_OB (mm_b E + a) ((mm_D E).1 ci) (mm_N ci) ((mm_D E).2 ci) H (mm_val' E ci (J a) (G a)) := by
  have h := hW.2 a ha
  rw [hs] at h
  exact h
theorem mm_arr {a t len : Nat} {H : Heap} (hW : mm_W E n J G H) (ha : a < n) (hs : mm_SH a = .inr (t, len)) : H[mm_b E + a]? = some (arrV (mm_cA E t) len (mm_val E (mm_rt t) (J a) (G a))) := by
  have h := hW.2 a ha
  rw [hs] at h
  exact h
theorem mm_N_of {ci : Nat} {C : String} {T : u_T} {N : Nat} (h : mm_cl[ci]? = some (C, T, N)) : mm_N ci = N := by
  unfold mm_N
  rw [h]
theorem mm_getV {idx ci k0 a : Nat} {v : Value} (hc : mm_d M pc = some (.getfield idx, 3)) (hf : mm_f M idx = some (ci, k0)) (hs : mm_SH a = .inl ci) (ha : a < n) (hv : mm_val' E ci (J a) (G a) k0 = mm_v E v) (k : mm_Go E M (pc + 3) lv (v :: st) n J G cs sl F) : mm_Go E M pc lv (.ref a :: st) n J G cs sl F := by
  intro p e s m args below meth c H locs ls C hY hL hW hS
  obtain ⟨hx, hb, hr, hml, hown, hlk, hts, hnm, ⟨hK, hX9⟩, hbs, hok⟩ := id C
  obtain ⟨C0, T, N, hcl, hkN, hlink⟩ := hok.2 _ _ _ hf
  have hin := (mm_clOK ci C0 T N hcl).2.2.2
  obtain ⟨cell, q1, q2, q3, q4⟩ := mm_obj hW ha hs
  rw [mm_N_of hcl] at q4
  obtain ⟨hSl, hfc, kC, hkC, hkind⟩ := hK.1 ci _ hcl
  obtain ⟨cf, kf, fi, f, hi, hsl⟩ := hSl k0 hkN
  refine W.getf hx hb hown (hts _ hlink) hi (u_facts hfc hkC (u_lays hts hin hkN) hi).1 q1 (by rw [q3]; exact fun h => by cases h) (v := mm_v E v) ?_ rfl rfl (hok.1 _ _ _ hc) (k p e s m args below meth c H locs ls C hY hL hW hS)
  rw [hsl, q4 k0 hkN, hv]
theorem mm_getI {idx ci k0 a : Nat} {x : Int32} (hc : mm_d M pc = some (.getfield idx, 3)) (hf : mm_f M idx = some (ci, k0)) (hs : mm_SH a = .inl ci) (ha : a < n) (hr : mm_fr ci k0 = false) (hv : J a k0 = x) (k : mm_Go E M (pc + 3) lv (.int x :: st) n J G cs sl F) : mm_Go E M pc lv (.ref a :: st) n J G cs sl F := by
  subst hv
  exact mm_getV hc hf hs ha (by show mm_val E _ _ _ _ = _; rw [hr]; rfl) k
theorem mm_getR {idx ci k0 a b : Nat} (hc : mm_d M pc = some (.getfield idx, 3)) (hf : mm_f M idx = some (ci, k0)) (hs : mm_SH a = .inl ci) (ha : a < n) (hr : mm_fr ci k0 = true) (hg : G a k0 = some b) (k : mm_Go E M (pc + 3) lv (.ref b :: st) n J G cs sl F) : mm_Go E M pc lv (.ref a :: st) n J G cs sl F :=
  mm_getV (v := .ref b) hc hf hs ha (by show mm_val E _ _ _ _ = _; rw [hr]; show va_rf (mm_o E (G a k0)) = _; rw [hg]; rfl) k
theorem mm_putV {idx ci k0 a : Nat} {v : Value} {J' : mm_J} {G' : mm_G} (hc : mm_d M pc = some (.putfield idx, 3)) (hf : mm_f M idx = some (ci, k0)) (hs : mm_SH a = .inl ci) (ha : a < n)
    (hfin : mm_ff ci k0 = false ∨ (mm_y M).name = "<init>" ∧ mm_fo ci k0 = (mm_y M).cls) (hn : narrow (mm_fd ci k0) (mm_v E v) = mm_v E v) (hfit : fits (mm_fd ci k0) (mm_v E v) = true)
    (hJ : ∀ b, b ≠ a → J' b = J b) (hG : ∀ b, b ≠ a → G' b = G b) (hv : ∀ j, mm_val' E ci (J' a) (G' a) j = updV (mm_val' E ci (J a) (G a)) k0 (mm_v E v) j)
    (k : mm_Go E M (pc + 3) lv st n J' G' cs sl F) : mm_Go E M pc lv (v :: .ref a :: st) n J G cs sl F := by
  intro p e s m args below meth c H locs ls C hY hL hW hS
  obtain ⟨hx, hb, hr, hml, hown, hlk, hts, hnm, ⟨hK, hX9⟩, hbs, hok⟩ := id C
  obtain ⟨C0, T, N, hcl, hkN, hlink⟩ := hok.2 _ _ _ hf
  have hin := (mm_clOK ci C0 T N hcl).2.2.2
  obtain ⟨cell, q1, q2, q3, q4⟩ := mm_obj hW ha hs
  have q4' := q4
  rw [mm_N_of hcl] at q4
  obtain ⟨htyp, hnames, hffi, hin9⟩ := mm_clOK ci C0 T N hcl
  have hap := va_apart (own := (mm_y M).cls) hts hin (mm_fd ci) htyp hnames hK hcl
  obtain ⟨hSl, hfc, kC, hkC, hkind⟩ := hK.1 ci _ hcl
  obtain ⟨cf, kf, fi, f, hi, hsl⟩ := hSl k0 hkN
  have hst := (u_facts hfc hkC (u_lays hts hin hkN) hi).1
  have hend : ∀ H1 : Heap, H1[mm_b E + a]? = some (cell.setSlot f.slot (mm_v E v)) → H1.size = H.size → (∀ q, q ≠ mm_b E + a → H1[q]? = H[q]?) → W p (mm_l E) e (mm_R M) s m args below meth c H1 (locs ++ [⟨mm_b E + a, f.slot⟩]) cs sl (F.2 below args s) (F0 m (pc + 3) ls (st.map (mm_v E))) := by
    intro H1 e1 e2 e3
    refine k p e s m args below meth c H1 _ ls C hY hL (hW.chg e2 e3 hJ hG ?_) (mm_S.put hS e2 e3)
    rw [hs]
    show t_OB _ _ _ _ _ _
    rw [hsl] at e1
    refine ⟨_, e1, q2, q3, fun j hj => ?_⟩
    rw [mm_N_of hcl] at hj
    rw [t_set q4 hap hkN (mm_v E v) j hj, hv j]
  have hlay := hts _ (hin _ (u_in_lay hkN))
  unfold u_lay at hlay
  by_cases hz : (T k0).2.2.2 = true
  · rw [if_pos hz] at hlay
    rcases hfin with hfin | ⟨hin2, hdecl⟩
    · rw [(hffi k0 hkN).1, hz] at hfin
      cases hfin
    have hcf : m.cls = cf := by
      obtain ⟨_, _, c', _, _, _, -, -, hf', -, -, -, hown2, -⟩ := Cond.laysFinal_spec hlay
      have e1 : c' = cf := by have := hi.symm.trans hf'; simp at this; exact this.1.symm
      rw [← (hffi k0 hkN).2.1, hdecl] at hown2
      rw [← e1]; exact Option.some.inj (hown.symm.trans hown2)
    have h6 := u_fits hfc hkC hkind (Or.inr hlay) hi (htyp k0 hkN) hn hfit
    exact W.putFinK hx hb hown (hts _ hlink) hi hst hcf (hnm hin2) (by rw [q2]; exact h6) q1 q3 (by rw [hsl]; exact k2_hasslot (q4 k0 hkN)) rfl rfl (hok.1 _ _ _ hc) hend
  · rw [if_neg hz] at hlay
    have h6 := u_store hfc hkC hkind hlay hi (htyp k0 hkN) hn hfit
    exact W.putK hx hb (f := f) ⟨hown, hts _ hlink, ⟨_, _, _, hi⟩, hst⟩ (by rw [q2]; exact h6) q1 q3 (by rw [hsl]; exact k2_hasslot (q4 k0 hkN)) rfl rfl (hok.1 _ _ _ hc) hend
theorem mm_putI {idx ci k0 a : Nat} {x : Int32} (hc : mm_d M pc = some (.putfield idx, 3)) (hf : mm_f M idx = some (ci, k0)) (hs : mm_SH a = .inl ci) (ha : a < n) (hr : mm_fr ci k0 = false)
    (hfin : mm_ff ci k0 = false ∨ (mm_y M).name = "<init>" ∧ mm_fo ci k0 = (mm_y M).cls) (hn : narrow (mm_fd ci k0) (.int x) = .int x) (hfit : fits (mm_fd ci k0) (.int x) = true)
    (k : mm_Go E M (pc + 3) lv st n (mm_set J a k0 x) G cs sl F) : mm_Go E M pc lv (.int x :: .ref a :: st) n J G cs sl F := by
  refine mm_putV (v := .int x) (J' := mm_set J a k0 x) (G' := G) hc hf hs ha hfin hn hfit (fun b hb => mm_set_ne J k0 x hb) (fun _ _ => rfl) (fun j => ?_) k
  rw [mm_set_at]
  by_cases hj : j = k0
  · subst hj
    simp [updV, mm_val, upd, hr, mm_v]
  · simp [updV, mm_val, upd, hj]
theorem mm_putR {idx ci k0 a b : Nat} (hc : mm_d M pc = some (.putfield idx, 3)) (hf : mm_f M idx = some (ci, k0)) (hs : mm_SH a = .inl ci) (ha : a < n) (hr : mm_fr ci k0 = true)
    (hfin : mm_ff ci k0 = false ∨ (mm_y M).name = "<init>" ∧ mm_fo ci k0 = (mm_y M).cls) (hn : narrow (mm_fd ci k0) (.ref (mm_b E + b)) = .ref (mm_b E + b)) (hfit : fits (mm_fd ci k0) (.ref (mm_b E + b)) = true)
    (k : mm_Go E M (pc + 3) lv st n J (mm_sg G a k0 (some b)) cs sl F) : mm_Go E M pc lv (.ref b :: .ref a :: st) n J G cs sl F := by
  refine mm_putV (v := .ref b) (J' := J) (G' := mm_sg G a k0 (some b)) hc hf hs ha hfin hn hfit (fun _ _ => rfl) (fun b' hb => mm_sg_ne G k0 (some b) hb) (fun j => ?_) k
  rw [mm_sg_at]
  by_cases hj : j = k0
  · subst hj
    simp [updV, mm_val, va_up, hr, mm_v, mm_o, va_rf]
  · simp [updV, mm_val, va_up, hj]

theorem mm_rdI {a t len : Nat} {i : Int32} (hs : mm_SH a = .inr (t, len)) (ht : t < mm_ty.length) (hp : mm_ty.getD t .int = .int) (ha : a < n) (hi : vp_in i len) (hc : mm_d M pc = some (.iaload, 1)) (k : mm_Go E M (pc + 1) lv (.int (J a i.toNatClampNeg) :: st) n J G cs sl F) : mm_Go E M pc lv (.int i :: .ref a :: st) n J G cs sl F := by
  intro p e s m args below meth c H locs ls C hY hL hW hS
  obtain ⟨hx, hb, hr, hml, hown, hlk, hts, hnm, ⟨hK, hX9⟩, hbs, hok⟩ := id C
  have hlt : i.toNatClampNeg < len := Nat.not_le.mp fun q => hi (Or.inr q)
  have hA := (hK.2 t _ (mm_tys_at ht)).1
  rw [hp] at hA
  exact W.iald (v := .int (J a i.toNatClampNeg)) hx hb (mm_arr hW ha hs) (hA len _) (fun q => by cases q) (by rw [arrV_size]; exact hi) (by rw [arrV_read _ _ hlt]; simp [mm_val, mm_rt_p hp rfl]) rfl rfl (hok.1 _ _ _ hc) (k p e s m args below meth c H locs ls C hY hL hW hS)
theorem mm_rdZ {a t len : Nat} {i : Int32} (hs : mm_SH a = .inr (t, len)) (ht : t < mm_ty.length) (hp : mm_ty.getD t .int = .boolean) (ha : a < n) (hi : vp_in i len) (hc : mm_d M pc = some (.baload, 1)) (k : mm_Go E M (pc + 1) lv (.int (J a i.toNatClampNeg) :: st) n J G cs sl F) : mm_Go E M pc lv (.int i :: .ref a :: st) n J G cs sl F := by
  intro p e s m args below meth c H locs ls C hY hL hW hS
  obtain ⟨hx, hb, hr, hml, hown, hlk, hts, hnm, ⟨hK, hX9⟩, hbs, hok⟩ := id C
  have hlt : i.toNatClampNeg < len := Nat.not_le.mp fun q => hi (Or.inr q)
  have hA := (hK.2 t _ (mm_tys_at ht)).1
  rw [hp] at hA
  exact W.zald (v := .int (J a i.toNatClampNeg)) hx hb (mm_arr hW ha hs) (hA len _) (fun q => by cases q) (by rw [arrV_size]; exact hi) (by rw [arrV_read _ _ hlt]; simp [mm_val, mm_rt_p hp rfl]) rfl rfl (hok.1 _ _ _ hc) (k p e s m args below meth c H locs ls C hY hL hW hS)
theorem mm_rdR {a t len b : Nat} {i : Int32} (hs : mm_SH a = .inr (t, len)) (ht : t < mm_ty.length) (hp : (mm_ty.getD t .int).isReference = true) (hp2 : mm_rt t = true) (ha : a < n) (hi : vp_in i len) (hg : G a i.toNatClampNeg = some b) (hc : mm_d M pc = some (.aaload, 1)) (k : mm_Go E M (pc + 1) lv (.ref b :: st) n J G cs sl F) : mm_Go E M pc lv (.int i :: .ref a :: st) n J G cs sl F := by
  intro p e s m args below meth c H locs ls C hY hL hW hS
  obtain ⟨hx, hb, hr, hml, hown, hlk, hts, hnm, ⟨hK, hX9⟩, hbs, hok⟩ := id C
  have hlt : i.toNatClampNeg < len := Nat.not_le.mp fun q => hi (Or.inr q)
  have hA := (hK.2 t _ (mm_tys_at ht)).1
  exact W.aald (v := .ref (mm_b E + b)) hx hb (mm_arr hW ha hs) (hA len _) hp (fun q => by cases q) (by rw [arrV_size]; exact hi) (by rw [arrV_read _ _ hlt]; simp [mm_val, hp2, hg, mm_o, va_rf]) rfl rfl (hok.1 _ _ _ hc) (k p e s m args below meth c H locs ls C hY hL hW hS)
theorem mm_len {a t len : Nat} {v : Int32} (hs : mm_SH a = .inr (t, len)) (ht : t < mm_ty.length) (ha : a < n) (hv : Int32.ofNat len = v) (hc : mm_d M pc = some (.arraylength, 1)) (k : mm_Go E M (pc + 1) lv (.int v :: st) n J G cs sl F) : mm_Go E M pc lv (.ref a :: st) n J G cs sl F := by
  intro p e s m args below meth c H locs ls C hY hL hW hS
  obtain ⟨hx, hb, hr, hml, hown, hlk, hts, hnm, ⟨hK, hX9⟩, hbs, hok⟩ := id C
  exact W.alen (n := v) hx hb (mm_arr hW ha hs) ((hK.2 t _ (mm_tys_at ht)).1 len _) (by rw [arrV_size]; exact hv) rfl rfl (hok.1 _ _ _ hc) (k p e s m args below meth c H locs ls C hY hL hW hS)
theorem mm_wrI {a t len : Nat} {i x : Int32} (hs : mm_SH a = .inr (t, len)) (ht : t < mm_ty.length) (hp : mm_ty.getD t .int = .int) (ha : a < n) (hi : vp_in i len) (hc : mm_d M pc = some (.iastore, 1)) (k : mm_Go E M (pc + 1) lv st n (mm_set J a i.toNatClampNeg x) G cs sl F) : mm_Go E M pc lv (.int x :: .int i :: .ref a :: st) n J G cs sl F := by
  intro p e s m args below meth c H locs ls C hY hL hW hS
  obtain ⟨hx, hb, hr, hml, hown, hlk, hts, hnm, ⟨hK, hX9⟩, hbs, hok⟩ := id C
  have hA := (hK.2 t _ (mm_tys_at ht)).1
  rw [hp] at hA
  refine W.iast hx hb (mm_arr hW ha hs) (hA len _) (fun q => by cases q) (by rw [arrV_size]; exact hi) rfl rfl (hok.1 _ _ _ hc) fun H1 e1 z oq => ?_
  refine k p e s m args below meth c H1 _ ls C hY hL (hW.chg (J' := mm_set J a i.toNatClampNeg x) (G' := G) z oq (fun b hb => mm_set_ne J _ x hb) (fun _ _ => rfl) ?_) (mm_S.put hS z oq)
  rw [hs, mm_set_at]
  show H1[mm_b E + a]? = some (arrV _ _ _)
  rw [e1, arrV_store]
  congr 2
  funext q
  by_cases hq : q = i.toNatClampNeg
  · subst hq
    simp [updV, upd, mm_val, mm_rt_p hp rfl]
  · simp [updV, upd, mm_val, hq]
theorem mm_wrZ {a t len : Nat} {i x : Int32} (hs : mm_SH a = .inr (t, len)) (ht : t < mm_ty.length) (hp : mm_ty.getD t .int = .boolean) (ha : a < n) (hi : vp_in i len) (hn : narrow .boolean (.int x) = .int x) (hc : mm_d M pc = some (.bastore, 1)) (k : mm_Go E M (pc + 1) lv st n (mm_set J a i.toNatClampNeg x) G cs sl F) : mm_Go E M pc lv (.int x :: .int i :: .ref a :: st) n J G cs sl F := by
  intro p e s m args below meth c H locs ls C hY hL hW hS
  obtain ⟨hx, hb, hr, hml, hown, hlk, hts, hnm, ⟨hK, hX9⟩, hbs, hok⟩ := id C
  have hA := (hK.2 t _ (mm_tys_at ht)).1
  rw [hp] at hA
  refine W.zast hx hb (mm_arr hW ha hs) (hA len _) (fun q => by cases q) (by rw [arrV_size]; exact hi) rfl rfl (hok.1 _ _ _ hc) fun H1 e1 z oq => ?_
  refine k p e s m args below meth c H1 _ ls C hY hL (hW.chg (J' := mm_set J a i.toNatClampNeg x) (G' := G) z oq (fun b hb => mm_set_ne J _ x hb) (fun _ _ => rfl) ?_) (mm_S.put hS z oq)
  rw [hs, mm_set_at]
  show H1[mm_b E + a]? = some (arrV _ _ _)
  rw [e1, hn, arrV_store]
  congr 2
  funext q
  by_cases hq : q = i.toNatClampNeg
  · subst hq
    simp [updV, upd, mm_val, mm_rt_p hp rfl]
  · simp [updV, upd, mm_val, hq]
theorem mm_wrR {a t len v ci : Nat} {i : Int32} {C0 : String} {T : u_T} {N : Nat} (hs : mm_SH a = .inr (t, len)) (ht : t < mm_ty.length) (hp : mm_ty.getD t .int = .object C0) (ha : a < n) (hi : vp_in i len) (hv : v < n) (hsv : mm_SH v = .inl ci) (hcl : mm_cl[ci]? = some (C0, T, N)) (hc : mm_d M pc = some (.aastore, 1)) (k : mm_Go E M (pc + 1) lv st n J (mm_sg G a i.toNatClampNeg (some v)) cs sl F) : mm_Go E M pc lv (.ref v :: .int i :: .ref a :: st) n J G cs sl F := by
  intro p e s m args below meth c H locs ls C hY hL hW hS
  obtain ⟨hx, hb, hr, hml, hown, hlk, hts, hnm, ⟨hK, hX9⟩, hbs, hok⟩ := id C
  have hlt : i.toNatClampNeg < len := Nat.not_le.mp fun q => hi (Or.inr q)
  have h0 : ¬ i < 0 := fun q => hi (Or.inl q)
  have hrt : mm_rt t = true := by unfold mm_rt; rw [hp]; rfl
  obtain ⟨cellV, g1, g2, g3, -⟩ := mm_obj hW hv hsv
  have hcls := (hK.1 ci _ hcl).2
  have hRA := (hK.2 t _ (mm_tys_at ht)).2
  dsimp only at hRA
  rw [hp] at hRA
  obtain ⟨kA, comp, k1, k2, k3, -⟩ := hRA
  have hcomp : comp = (mm_D E).1 ci := Option.some.inj (k3.symm.trans hcls.1)
  subst hcomp
  obtain ⟨kC, hkC, -⟩ := hcls.2
  refine W.aast hx hb (mm_arr hW ha hs) (fun q h => by cases h) (fun h => by cases h) k1 k2 rfl hkC ⟨h0, by rw [arrV_size]; exact hlt⟩ g1 (fun q h => by rw [g3] at h; cases h) (by rw [g2]; exact hkC) (by rw [g2]; exact va_assign hcls) rfl rfl (hok.1 _ _ _ hc) fun H1 e1 z oq => ?_
  refine k p e s m args below meth c H1 _ ls C hY hL (hW.chg (J' := J) (G' := mm_sg G a i.toNatClampNeg (some v)) z oq (fun _ _ => rfl) (fun b hb => mm_sg_ne G _ (some v) hb) ?_) (mm_S.put hS z oq)
  rw [hs, mm_sg_at]
  show H1[mm_b E + a]? = some (arrV _ _ _)
  rw [e1, arrV_store]
  congr 2
  funext q
  by_cases hq : q = i.toNatClampNeg
  · subst hq
    simp [updV, va_up, mm_val, hrt, mm_o, va_rf]
  · simp [updV, va_up, mm_val, hq]

theorem mm_new {idx ci N : Nat} {C0 : String} {T : u_T} (hc : mm_d M pc = some (.new idx, 3)) (hs : mm_SH n = .inl ci) (hcl : mm_cl[ci]? = some (C0, T, N)) (hw1 : Cond.classLink (mm_y M).cls idx C0 ∈ lw_t2) (hw2 : Cond.instantiable C0 N ∈ lw_t2) (hw3 : Cond.initialized C0 ∈ lw_t2)
    (h1 : cs + 1 ≤ (mm_R M).cells) (h2 : sl + N ≤ (mm_R M).slots) (k : mm_Go E M (pc + 3) lv (.ref n :: st) (n + 1) (mm_z J n) (mm_zg G n) (cs + 1) (sl + N) F) : mm_Go E M pc lv st n J G cs sl F := by
  intro p e s m args below meth c H locs ls C hY hL hW hS
  obtain ⟨hx, hb, hr, hml, hown, hlk, hts, hnm, ⟨hK, hX9⟩, hbs, hok⟩ := id C
  obtain ⟨htyp, hnames, hffi, hin9⟩ := mm_clOK ci C0 T N hcl
  have hKn := hK.1 ci _ hcl
  refine W.newcK (cC := (mm_D E).1 ci) hx hb hown (hts _ hw1) (hts _ hw2) (hts _ hw3) rfl (hok.1 _ _ _ hc) h1 h2 hKn.2.1 hW.1 fun H1 kC hkC e1 z1 o1 => ?_
  have o1' : ∀ q : Nat, q < H.size → H1[q]? = H[q]? := fun q hq => o1 q (by rw [← hW.1]; exact hq)
  have z1' : H1.size = H.size + 1 := by rw [z1, hW.1]
  refine k p e s m args below meth c H1 locs ls C hY hL (hW.push (J' := mm_z J n) (G' := mm_zg G n) z1' o1' (fun a ha => by funext b; simp [mm_z, ha]) (fun a ha => by funext b; simp [mm_zg, ha]) ?_) (mm_S.push hS z1' o1')
  rw [hs]
  show t_OB _ _ _ _ _ _
  rw [mm_N_of hcl]
  refine (u_born (mm_fd ci) hts hin9 hKn hkC e1 htyp).to (fun j hj => ?_)
  rw [(hffi j hj).2.2]
  cases hfr : mm_fr ci j <;> simp [mm_val, mm_z, mm_zg, hfr, mm_o, va_rf]
theorem mm_newa {t len : Nat} {at_ : ArrayType} {x : Int32} (hc : mm_d M pc = some (.newarray at_, 2)) (hs : mm_SH n = .inr (t, len)) (ht : t < mm_ty.length) (hty : newarray.typeOf at_ = mm_ty.getD t .int) (hp : mm_rt t = false) (hd : defaultValue (newarray.typeOf at_) = .int 0) (hw1 : Cond.arrayClass (newarray.typeOf at_) ∈ lw_t2)
    (hn : ¬ x < 0) (hN : x.toNatClampNeg = len) (hbytes : len * componentBytes (newarray.typeOf at_) ≤ 536870912) (h1 : cs + 1 ≤ (mm_R M).cells) (h2 : sl + len ≤ (mm_R M).slots) (k : mm_Go E M (pc + 2) lv (.ref n :: st) (n + 1) (mm_z J n) (mm_zg G n) (cs + 1) (sl + len) F) : mm_Go E M pc lv (.int x :: st) n J G cs sl F := by
  intro p e s m args below meth c H locs ls C hY hL hW hS
  obtain ⟨hx, hb, hr, hml, hown, hlk, hts, hnm, ⟨hK, hX9⟩, hbs, hok⟩ := id C
  have hRA := (hK.2 t _ (mm_tys_at ht)).2
  dsimp only at hRA
  rw [← hty] at hRA
  have hcA : s.vm.findClass ("[" ++ (newarray.typeOf at_).toString) = some (mm_cA E t) := by
    cases at_ <;> exact hRA
  refine va_newaK hx hb (hts _ hw1) rfl (hok.1 _ _ _ hc) rfl hn hN hbytes h1 h2 hW.1 fun H1 cA e1 z1 o1 hAr hNm => ?_
  have hcc : cA = mm_cA E t := Option.some.inj (hNm.symm.trans hcA)
  subst hcc
  have o1' : ∀ q : Nat, q < H.size → H1[q]? = H[q]? := fun q hq => o1 q (by rw [← hW.1]; exact hq)
  have z1' : H1.size = H.size + 1 := by rw [z1, hW.1]
  refine k p e s m args below meth c H1 locs ls C hY hL (hW.push (J' := mm_z J n) (G' := mm_zg G n) z1' o1' (fun a ha => by funext b; simp [mm_z, ha]) (fun a ha => by funext b; simp [mm_zg, ha]) ?_) (mm_S.push hS z1' o1')
  rw [hs]
  show H1[mm_b E + n]? = some (arrV _ _ _)
  rw [e1, hd]
  congr 2
  funext j
  simp [mm_val, hp, mm_z]
theorem mm_newq {t len idx : Nat} {C0 : String} {x : Int32} (hc : mm_d M pc = some (.anewarray idx, 3)) (hs : mm_SH n = .inr (t, len)) (ht : t < mm_ty.length) (hty : mm_ty.getD t .int = .object C0) (hw1 : Cond.classLink (mm_y M).cls idx C0 ∈ lw_t2) (hC0 : C0 = "EditorCore$Letters")
    (hn : ¬ x < 0) (hN : x.toNatClampNeg = len) (hbytes : len * 4 ≤ 536870912) (h1 : cs + 1 ≤ (mm_R M).cells) (h2 : sl + len ≤ (mm_R M).slots) (k : mm_Go E M (pc + 3) lv (.ref n :: st) (n + 1) (mm_z J n) (mm_zg G n) (cs + 1) (sl + len) F) : mm_Go E M pc lv (.int x :: st) n J G cs sl F := by
  intro p e s m args below meth c H locs ls C hY hL hW hS
  obtain ⟨hx, hb, hr, hml, hown, hlk, hts, hnm, ⟨hK, hX9⟩, hbs, hok⟩ := id C
  have hRA := (hK.2 t _ (mm_tys_at ht)).2
  dsimp only at hRA
  rw [hty] at hRA
  obtain ⟨kA0, comp0, -, -, -, hcA⟩ := hRA
  have hrt : mm_rt t = true := by unfold mm_rt; rw [hty]; rfl
  subst hN
  subst hC0
  refine W.anew hx hb hown (hts _ hw1) (va_AO.use hX9.1) rfl (hok.1 _ _ _ hc) rfl hn hbytes h1 h2 fun cA kA comp f1 f2 f3 f4 => ?_
  have hcc : cA = mm_cA E t := Option.some.inj (f1.symm.trans hcA)
  subst hcc
  generalize hH1 : H.push ({ cls := mm_cA E t, slots := Array.replicate x.toNatClampNeg .null, vm := .none } : Cell) = H1
  have z1' : H1.size = H.size + 1 := by rw [← hH1, Array.size_push]
  have e1 : H1[H.size]? = some (arrV (mm_cA E t) x.toNatClampNeg (fun _ => .null)) := by rw [← hH1, Array.getElem?_push_size, ← arrV_new]
  have o1' : ∀ q : Nat, q < H.size → H1[q]? = H[q]? := fun q hq => by rw [← hH1, Array.getElem?_push, if_neg (Nat.ne_of_lt hq)]
  rw [hW.1] at e1 ⊢
  refine k p e s m args below meth c H1 locs ls C hY hL (hW.push (J' := mm_z J n) (G' := mm_zg G n) z1' o1' (fun a ha => by funext b; simp [mm_z, ha]) (fun a ha => by funext b; simp [mm_zg, ha]) ?_) (mm_S.push hS z1' o1')
  rw [hs]
  show H1[mm_b E + n]? = some (arrV _ _ _)
  rw [e1]
  congr 2
  funext j
  simp [mm_val, hrt, mm_zg, mm_o, va_rf]
theorem mm_objInit {idx a : Nat} (hc : mm_d M pc = some (.invokespecial idx, 3)) (hw1 : Cond.methodLink (mm_y M).cls idx Lib.objectInit ∈ lw_t2) (hw2 : Cond.instanceMethod Lib.objectInit ∈ lw_t2) (hw3 : Cond.code Lib.objectInit ⟨#[0xb1]⟩ 1 none ∈ lw_t2) (hf : 1 ≤ (mm_R M).frames) (hl : ((st.map (mm_v E)).map fun v => v.category).sum + 12 ≤ (mm_R M).locals) (k : mm_Go E M (pc + 3) lv st n J G cs sl F) : mm_Go E M pc lv (.ref a :: st) n J G cs sl F := by
  intro p e s m args below meth c H locs ls C hY hL hW hS
  obtain ⟨hx, hb, hr, hml, hown, hlk, hts, hnm, ⟨hK, hX9⟩, hbs, hok⟩ := id C
  exact W.objInit hx hb hown (hts _ hw1) (hts _ hw2) (hts _ hw3) rfl (by rw [hml]; exact hL.1) rfl (hok.1 _ _ _ hc) hf (by show 2 * 0 + _ + 12 ≤ _; omega) (k p e s m args below meth c H locs ls C hY hL hW hS)
theorem mm_min {idx : Nat} {x y : Int32} (hc : mm_d M pc = some (.invokestatic idx, 3)) (hw1 : Cond.methodLink (mm_y M).cls idx Lib.Math.min.name ∈ lw_t2) (hw2 : Cond.static Lib.Math.min.name ∈ lw_t2) (hw3 : Cond.initialized "java/lang/Math" ∈ lw_t2) (hw4 : Cond.code Lib.Math.min.name Lib.Math.min.code 2 (some .int) ∈ lw_t2) (hf : 1 ≤ (mm_R M).frames) (hl : ((st.map (mm_v E)).map fun v => v.category).sum + 13 ≤ (mm_R M).locals) (h1 : cs ≤ (mm_R M).cells) (h2 : sl ≤ (mm_R M).slots)
    (k : mm_Go E M (pc + 3) lv (.int (if y < x then y else x) :: st) n J G cs sl F) : mm_Go E M pc lv (.int y :: .int x :: st) n J G cs sl F := by
  intro p e s m args below meth c H locs ls C hY hL hW hS
  obtain ⟨hx, hb, hr, hml, hown, hlk, hts, hnm, ⟨hK, hX9⟩, hbs, hok⟩ := id C
  exact va_mmin hx hb (hml.trans hL.1.symm) hown (hts _ hw1) (hts _ hw2) (hts _ hw3) (hts _ hw4) hf hl h1 h2 (hok.1 _ _ _ hc) (k p e s m args below meth c H locs ls C hY hL hW hS)
theorem mm_max {idx : Nat} {x y : Int32} (hc : mm_d M pc = some (.invokestatic idx, 3)) (hw1 : Cond.methodLink (mm_y M).cls idx Lib.Math.max.name ∈ lw_t2) (hw2 : Cond.static Lib.Math.max.name ∈ lw_t2) (hw3 : Cond.initialized "java/lang/Math" ∈ lw_t2) (hw4 : Cond.code Lib.Math.max.name Lib.Math.max.code 2 (some .int) ∈ lw_t2) (hf : 1 ≤ (mm_R M).frames) (hl : ((st.map (mm_v E)).map fun v => v.category).sum + 13 ≤ (mm_R M).locals) (h1 : cs ≤ (mm_R M).cells) (h2 : sl ≤ (mm_R M).slots)
    (k : mm_Go E M (pc + 3) lv (.int (if x < y then y else x) :: st) n J G cs sl F) : mm_Go E M pc lv (.int y :: .int x :: st) n J G cs sl F := by
  intro p e s m args below meth c H locs ls C hY hL hW hS
  obtain ⟨hx, hb, hr, hml, hown, hlk, hts, hnm, ⟨hK, hX9⟩, hbs, hok⟩ := id C
  exact va_mmax hx hb (hml.trans hL.1.symm) hown (hts _ hw1) (hts _ hw2) (hts _ hw3) (hts _ hw4) hf hl h1 h2 (hok.1 _ _ _ hc) (k p e s m args below meth c H locs ls C hY hL hW hS)
theorem mm_copy {idx a0 a t n0 n1 : Nat} {sp dp z : Int32} (hc : mm_d M pc = some (.invokestatic idx, 3)) (hw1 : Cond.methodLink (mm_y M).cls idx arraycopyName ∈ lw_t2) (hw2 : Cond.native arraycopyName ∈ lw_t2) (hw3 : Cond.static arraycopyName ∈ lw_t2) (hw4 : Cond.initialized "java/lang/System" ∈ lw_t2)
    (hs0 : mm_SH a0 = .inr (t, n0)) (hs1 : mm_SH a = .inr (t, n1)) (ht : t < mm_ty.length) (hp : mm_ty.getD t .int = .int) (ha0 : a0 < n) (ha : a < n) (h1 : ¬ sp < 0) (h2 : ¬ dp < 0) (h3 : ¬ z < 0) (h4 : sp.toNatClampNeg + z.toNatClampNeg ≤ n0) (h5 : dp.toNatClampNeg + z.toNatClampNeg ≤ n1)
    (hf : 1 ≤ (mm_R M).frames) (hl : ((st.map (mm_v E)).map fun v => v.category).sum + (nativeFrameWords "java/lang/System" "arraycopy" 5 + 11) ≤ (mm_R M).locals)
    (k : mm_Go E M (pc + 3) lv st n (mm_cp J a0 a sp.toNatClampNeg dp.toNatClampNeg z.toNatClampNeg) G cs sl F) : mm_Go E M pc lv (.int z :: .int dp :: .ref a :: .int sp :: .ref a0 :: st) n J G cs sl F := by
  intro p e s m args below meth c H locs ls C hY hL hW hS
  obtain ⟨hx, hb, hr, hml, hown, hlk, hts, hnm, ⟨hK, hX9⟩, hbs, hok⟩ := id C
  have nn : ∀ z : Int32, ¬ z < 0 → z.toInt = (z.toNatClampNeg : Int) := by
    intro z hz
    have hz0 : (0 : Int) ≤ z.toInt := by
      have := Int32.not_lt.mp hz
      simpa using Int32.le_iff_toInt_le.mp this
    show z.toInt = ((z.toInt.toNat : Nat) : Int)
    omega
  have hval : ∀ b, mm_val E (mm_rt t) (J b) (G b) = fun j => Value.int (J b j) := fun b => by
    funext j
    simp [mm_val, mm_rt_p hp rfl]
  intro T hT X
  have hc0 := mm_arr hW ha0 hs0
  have hc1 := mm_arr hW ha hs1
  rw [hval] at hc0 hc1
  have hA := (hK.2 t _ (mm_tys_at ht)).1
  rw [hp] at hA
  obtain ⟨-, k0, hk0, cm0, hkk0⟩ := hA n0 (fun j => .int (J a0 j))
  obtain ⟨-, k1, hk1, cm1, hkk1⟩ := hA n1 (fun j => .int (J a j))
  obtain ⟨vm', X', step⟩ := X.arraycopy hx hown (hts _ hw1) (hts _ hw2) (hts _ hw3) (hts _ hw4) (src := mm_b E + a0) (dst := mm_b E + a) (cs := arrV (mm_cA E t) n0 (fun j => .int (J a0 j))) (cd := arrV (mm_cA E t) n1 (fun j => .int (J a j))) (srcPos := sp) (destPos := dp) (n := z) (by rw [hT]; exact hc0) (by rw [hT]; exact hc1)
    (fun _ h => by cases h) (fun _ h => by cases h) (fun h => by cases h) (fun h => by cases h) hk0 hk1 hkk0 hkk1 (by simp [refKind]) h1 h2 h3
    (by rw [nn sp h1, nn z h3, arrV_size]; omega)
    (by rw [nn dp h2, nn z h3, arrV_size]; omega)
    (fun vm₁ _ i hi => by
      have e0 : (arrV (mm_cA E t) n0 (fun j => .int (J a0 j))).slots.getD (sp.toNatClampNeg + i) .null = .int (J a0 (sp.toNatClampNeg + i)) := by
        rw [Array.getD_eq_getD_getElem?, arrV_read _ _ (by omega)]
        rfl
      refine ⟨?_, ?_⟩
      · rw [e0]
        rfl
      · rw [e0]
        exact trivial)
    (g := F0 m pc ls (.int z :: .int dp :: .ref (mm_b E + a) :: .int sp :: .ref (mm_b E + a0) :: st.map (mm_v E))) rfl (by rw [hml]; exact hL.1) (rest := st.map (mm_v E)) rfl (by rw [hb]; exact hok.1 _ _ _ hc) hf (by show 2 * 0 + _ + _ ≤ _; omega)
  have e1 : copied (arrV (mm_cA E t) n0 (fun j => .int (J a0 j))) (arrV (mm_cA E t) n1 (fun j => .int (J a j))) sp dp z = arrV (mm_cA E t) n1 (fun j => .int (va_cpy (J a0) (J a) sp.toNatClampNeg dp.toNatClampNeg z.toNatClampNeg j)) := va_copied (fun z => .int z) _ _ (J a0) (J a) h4
  rw [e1] at X' step
  have hl' : mm_b E + a < H.size := (Array.getElem?_eq_some_iff.mp hc1).1
  generalize hY9 : arrV (mm_cA E t) n1 (fun j => Value.int (va_cpy (J a0) (J a) sp.toNatClampNeg dp.toNatClampNeg z.toNatClampNeg j)) = Y at X' step
  have hheap : ((T.setVm vm').setCell (mm_b E + a) Y).heap = H.setIfInBounds (mm_b E + a) Y := by rw [← hT]; rfl
  have oq : ∀ q : Nat, q ≠ mm_b E + a → (H.setIfInBounds (mm_b E + a) Y)[q]? = H[q]? := fun q hq => by simp [Array.getElem?_setIfInBounds, Ne.symm hq]
  have oa : (H.setIfInBounds (mm_b E + a) Y)[mm_b E + a]? = some Y := by simp [Array.getElem?_setIfInBounds, hl']
  have hz : (H.setIfInBounds (mm_b E + a) Y).size = H.size := by simp
  obtain ⟨t2, a1, b1⟩ := k p e s m args below meth c (H.setIfInBounds (mm_b E + a) Y) _ ls C hY hL (hW.chg (J' := mm_cp J a0 a sp.toNatClampNeg dp.toNatClampNeg z.toNatClampNeg) (G' := G) hz oq (fun b hb => by funext j; simp [mm_cp, hb]) (fun _ _ => rfl) (by
      rw [hs1]
      show (H.setIfInBounds (mm_b E + a) Y)[mm_b E + a]? = some (arrV _ _ _)
      rw [oa, ← hY9]
      congr 2
      funext j
      simp [mm_val, mm_rt_p hp rfl, mm_cp])) ⟨by rw [hz]; exact hS.1, fun q g1 g2 => by
      rw [oq q (fun e0 => g2 (by rw [e0]; show mm_b E ≤ mm_b E + a; omega))]
      exact hS.2.1 q g1 g2, fun q hq => by
      rcases List.mem_append.mp hq with h | h
      · exact hS.2.2 q h
      · obtain ⟨z0, -, hz0⟩ := List.mem_map.mp h
        rw [← hz0]
        show mm_b E ≤ mm_b E + a
        omega⟩ _ hheap X'
  exact ⟨t2, step t2 a1, b1⟩
/-- behind a call -/
theorem mm_after {p : Program} {e : Env} {s : State} {m : MethodId} {args : Array Value} {below : List Frame} {meth : Method} {c : Code} {H : Heap} {locs : List Loc} {ls : Array Slot} {stk : List Value} {mc ms : Nat} {a : Array Value} {Post2 : mm_T}
    (C : mm_Cx E M p s m args meth c) (hY : F.1 s) (hL : mm_L E (mm_n M) lv ls) (hW : mm_W E n J G H) (hS : va_S (mm_A E) s.heap H locs)
    (hr : va_Run p (mm_l E) e (mm_R M) s m args below meth c H locs cs sl mc ms (F0 m pc ls stk) (st.map (mm_v E)) (mm_Q E Post2 a) (mm_A E))
    (k : ∀ r n' J' G', Post2 r n' J' G' → n ≤ n' ∧ mm_Go E M (pc + 3) lv (r.toList ++ st) n' J' G' (cs + mc) (sl + ms) F) :
    W p (mm_l E) e (mm_R M) s m args below meth c H locs cs sl (F.2 below args s) (F0 m pc ls stk) := by
  intro T hT X
  obtain ⟨v, st0, t, T', L, h0, X', hLf, e1, e2, ⟨r, n', J', G', hv, hp, hW', hkeep⟩, go⟩ := hr T hT X
  obtain ⟨hle, k'⟩ := k r n' J' G' hp
  have hv' : v = Option.map (mm_v E) r := Outcome.returned.inj hv
  subst hv'
  obtain ⟨t2, a1, b1⟩ := k' p e s m args below meth c T'.heap (locs ++ L) ls C hY hL (by rw [e1]; exact hW') ⟨by
      rw [e1, hW'.1]
      have := hS.1
      rw [hW.1] at this
      omega, fun q g1 g2 => by
      have hq : q < mm_b E := Nat.not_le.mp g2
      rw [e1, hkeep q hq, h0]
      exact hS.2.1 q g1 g2, fun q hq => by
      rcases List.mem_append.mp hq with h | h
      · exact hS.2.2 q h
      · exact hLf q h⟩ T' rfl X'
  refine ⟨t2, go t2 ?_, b1⟩
  cases r <;> exact a1
def mm_Lk (M2 : mm_M) (na : Nat) : Prop := Cond.code (mm_y M2) (mm_c M2) (mm_n M2) (mm_r M2) ∈ lw_t2 ∧ ((mm_y M2).cls ≠ "java/lang/invoke/MethodHandle" ∧ (mm_y M2).cls ≠ "java/lang/invoke/VarHandle" ∧ (parseMethodDescriptor (mm_y M2).desc).map (fun d => d.parameters.length) = some na) ∧ Cond.initialized (mm_y M2).cls ∈ lw_t2
def mm_LkV (M2 : mm_M) (na ci : Nat) : Prop := mm_Lk M2 na ∧ Cond.instanceMethod (mm_y M2) ∈ lw_t2 ∧ Cond.selects (mm_y M2).cls (mm_y M2) (mm_y M2) ∈ lw_t2 ∧ ∃ T N, mm_cl[ci]? = some ((mm_y M2).cls, T, N)
def mm_LkS (M2 : mm_M) (na : Nat) : Prop := mm_Lk M2 na ∧ Cond.static (mm_y M2) ∈ lw_t2
def mm_LkI (M2 : mm_M) (na : Nat) : Prop := mm_Lk M2 na ∧ Cond.instanceMethod (mm_y M2) ∈ lw_t2 ∧ (mm_y M2).name = "<init>" ∧ mm_r M2 = none
abbrev mm_Rm (M M2 : mm_M) : Prop := (mm_R M2).frames + 1 ≤ (mm_R M).frames ∧ 8 + (mm_n M2 + 11) + (mm_R M2).locals ≤ (mm_R M).locals
theorem mm_good (M2 : mm_M) (h : Cond.code (mm_y M2) (mm_c M2) (mm_n M2) (mm_r M2) ∈ lw_t2) : GoodIn lw_t2 (mm_w M2) := fun w hw => by
  have hm : w ∈ lw_t2 := (List.mem_cons.mp hw).elim (fun e => e ▸ h) id
  exact ⟨hm, good_of_word (List.mem_filter.mp hm).2⟩
theorem mm_callB {M2 : mm_M} {na idx : Nat} {args : Array Value} {s : State} (hk : mm_Lk M2 na) (hR : mm_Rm M M2) (hts : ∀ w ∈ lw_t2, w.before args s = true) (hl : Cond.methodLink (mm_y M).cls idx (mm_y M2) ∈ lw_t2) : CallB (mm_R M) s args (mm_y M).cls idx (mm_y M2) (mm_c M2) (mm_n M2) (mm_r M2) (mm_w M2) (mm_R M2) (mm_R M2).cells (mm_R M2).slots na :=
  callB_of na hts (mm_good M2 hk.1) rfl rfl rfl (hts _ hk.2.2) (hts _ hl) hk.2.1 hR
theorem mm_callV {M2 : mm_M} {na idx ci a : Nat} (as : List Value) {Post2 : mm_T} (hl : Cond.methodLink (mm_y M).cls idx (mm_y M2) ∈ lw_t2) (hk : mm_LkV M2 na ci) (hR : mm_Rm M M2) (h : mm_Met E M2 (.ref a :: as) n J G Post2) (hs : mm_SH a = .inl ci) (ha : a < n) (hna : as.length = na) (hst : ((st.map (mm_v E)).map fun v => v.category).sum ≤ 8) (h1 : cs + (mm_R M2).cells ≤ (mm_R M).cells) (h2 : sl + (mm_R M2).slots ≤ (mm_R M).slots) (hc : mm_d M pc = some (.invokevirtual idx, 3))
    (k : ∀ r n' J' G', Post2 r n' J' G' → n ≤ n' ∧ mm_Go E M (pc + 3) lv (r.toList ++ st) n' J' G' (cs + (mm_R M2).cells) (sl + (mm_R M2).slots) F) : mm_Go E M pc lv (as.reverse ++ .ref a :: st) n J G cs sl F := by
  intro p e s m args below meth c H locs ls C hY hL hW hS
  obtain ⟨hx, hb, hr, hml, hown, hlk, hts, hnm, ⟨hK, hX9⟩, hbs, hok⟩ := id C
  obtain ⟨hk0, hin, hsel, T, N, hcl⟩ := hk
  obtain ⟨cellB, g1, g2, g3, -⟩ := mm_obj hW ha hs
  refine mm_after (pc := pc) (mc := (mm_R M2).cells) (ms := (mm_R M2).slots) (Post2 := Post2) (a := (Value.ref (mm_b E + a) :: as.map (mm_v E)).toArray) C hY hL hW hS ?_ k
  refine va_runV (C := (mm_y M2).cls) (As := as.map (mm_v E)) (b := mm_b E + a) (rest := st.map (mm_v E)) ⟨hx, hb, hml, hown, hts⟩ h ⟨mm_callB hk0 hR hts hl, hts _ hin, hts _ hsel⟩ ⟨mm_blind, ⟨cellB, g1, by rw [g3]; rfl, by rw [g2]; exact (hK.1 ci _ hcl).2.1⟩, fun U hU hw => ⟨rfl, by rw [hU]; exact hW, mm_K.warm hw ⟨hK, hX9⟩⟩⟩ rfl (by rw [List.length_map]; exact hna) hL.1 (by simp [List.map_append, List.map_reverse, mm_v]) (lv_room hst) (hok.1 _ _ _ hc) ⟨h1, h2⟩
theorem mm_callS {M2 : mm_M} {na idx : Nat} (as : List Value) {Post2 : mm_T} (hl : Cond.methodLink (mm_y M).cls idx (mm_y M2) ∈ lw_t2) (hk : mm_LkS M2 na) (hR : mm_Rm M M2) (h : mm_Met E M2 as n J G Post2) (hna : as.length = na) (hst : ((st.map (mm_v E)).map fun v => v.category).sum ≤ 8) (h1 : cs + (mm_R M2).cells ≤ (mm_R M).cells) (h2 : sl + (mm_R M2).slots ≤ (mm_R M).slots) (hc : mm_d M pc = some (.invokestatic idx, 3))
    (k : ∀ r n' J' G', Post2 r n' J' G' → n ≤ n' ∧ mm_Go E M (pc + 3) lv (r.toList ++ st) n' J' G' (cs + (mm_R M2).cells) (sl + (mm_R M2).slots) F) : mm_Go E M pc lv (as.reverse ++ st) n J G cs sl F := by
  intro p e s m args below meth c H locs ls C hY hL hW hS
  obtain ⟨hx, hb, hr, hml, hown, hlk, hts, hnm, ⟨hK, hX9⟩, hbs, hok⟩ := id C
  obtain ⟨hk0, hstt⟩ := hk
  refine mm_after (pc := pc) (mc := (mm_R M2).cells) (ms := (mm_R M2).slots) (Post2 := Post2) (a := (as.map (mm_v E)).toArray) C hY hL hW hS ?_ k
  refine va_runS (As := as.map (mm_v E)) (rest := st.map (mm_v E)) ⟨hx, hb, hml, hown, hts⟩ h ⟨mm_callB hk0 hR hts hl, hts _ hstt⟩ ⟨mm_blind, fun U hU hw => ⟨rfl, by rw [hU]; exact hW, mm_K.warm hw ⟨hK, hX9⟩⟩⟩ rfl (by rw [List.length_map]; exact hna) hL.1 (by simp [List.map_append, List.map_reverse]) (lv_room hst) (hok.1 _ _ _ hc) ⟨h1, h2⟩
theorem mm_callI {M2 : mm_M} {na idx a : Nat} (as : List Value) {Post2 : mm_T} (hl : Cond.methodLink (mm_y M).cls idx (mm_y M2) ∈ lw_t2) (hk : mm_LkI M2 na) (hR : mm_Rm M M2) (h : mm_Met E M2 (.ref a :: as) n J G Post2) (hna : as.length = na) (hst : ((st.map (mm_v E)).map fun v => v.category).sum ≤ 8) (h1 : cs + (mm_R M2).cells ≤ (mm_R M).cells) (h2 : sl + (mm_R M2).slots ≤ (mm_R M).slots) (hc : mm_d M pc = some (.invokespecial idx, 3))
    (k : ∀ r n' J' G', Post2 r n' J' G' → n ≤ n' ∧ mm_Go E M (pc + 3) lv (r.toList ++ st) n' J' G' (cs + (mm_R M2).cells) (sl + (mm_R M2).slots) F) : mm_Go E M pc lv (as.reverse ++ .ref a :: st) n J G cs sl F := by
  intro p e s m args below meth c H locs ls C hY hL hW hS
  obtain ⟨hx, hb, hr, hml, hown, hlk, hts, hnm, ⟨hK, hX9⟩, hbs, hok⟩ := id C
  obtain ⟨hk0, hin, hy, hrt⟩ := hk
  have hB := mm_callB (idx := idx) hk0 hR hts hl
  rw [hrt] at hB
  refine mm_after (pc := pc) (mc := (mm_R M2).cells) (ms := (mm_R M2).slots) (Post2 := Post2) (a := (Value.ref (mm_b E + a) :: as.map (mm_v E)).toArray) C hY hL hW hS ?_ k
  refine va_runI (As := as.map (mm_v E)) (b := mm_b E + a) (rest := st.map (mm_v E)) ⟨hx, hb, hml, hown, hts⟩ h ⟨hB, hy, hts _ hin⟩ ⟨mm_blind, fun U hU hw => ⟨rfl, by rw [hU]; exact hW, mm_K.warm hw ⟨hK, hX9⟩⟩⟩ rfl (by rw [List.length_map]; exact hna) hL.1 (by simp [List.map_append, List.map_reverse, mm_v]) (lv_room hst) (hok.1 _ _ _ hc) ⟨h1, h2⟩
theorem mm_callN {M2 : mm_M} {na idx : Nat} {host : String} (as : List Value) {Post2 : mm_T} (hl : ∀ s, mm_X s → va_Nw (.methodLinkNest (mm_y M).cls idx (mm_y M2) host) s) (hk : mm_LkS M2 na) (hR : mm_Rm M M2) (h : mm_Met E M2 as n J G Post2) (hna : as.length = na) (hst : ((st.map (mm_v E)).map fun v => v.category).sum ≤ 8) (h1 : cs + (mm_R M2).cells ≤ (mm_R M).cells) (h2 : sl + (mm_R M2).slots ≤ (mm_R M).slots) (hc : mm_d M pc = some (.invokestatic idx, 3))
    (k : ∀ r n' J' G', Post2 r n' J' G' → n ≤ n' ∧ mm_Go E M (pc + 3) lv (r.toList ++ st) n' J' G' (cs + (mm_R M2).cells) (sl + (mm_R M2).slots) F) : mm_Go E M pc lv (as.reverse ++ st) n J G cs sl F := by
  intro p e s m args below meth c H locs ls C hY hL hW hS
  obtain ⟨hx, hb, hr, hml, hown, hlk, hts, hnm, ⟨hK, hX9⟩, hbs, hok⟩ := id C
  obtain ⟨hk0, hstt⟩ := hk
  refine mm_after (pc := pc) (mc := (mm_R M2).cells) (ms := (mm_R M2).slots) (Post2 := Post2) (a := (as.map (mm_v E)).toArray) C hY hL hW hS ?_ k
  refine va_runSN (As := as.map (mm_v E)) (rest := st.map (mm_v E)) ⟨hx, hb, hml, hown, hts⟩ h ⟨va_cnB na hts (mm_good M2 hk0.1) rfl rfl rfl (hl s hX9) (hts _ hk0.2.2) hk0.2.1 hR, hts _ hstt, trivial⟩ ⟨mm_blind, fun U hU hw => ⟨rfl, by rw [hU]; exact hW, mm_K.warm hw ⟨hK, hX9⟩⟩⟩ rfl (by rw [List.length_map]; exact hna) hL.1 (by simp [List.map_append, List.map_reverse]) (lv_room hst) (hok.1 _ _ _ hc) ⟨h1, h2⟩
/-- calls of methods whose end is known outright -/
theorem mm_isV {M2 : mm_M} {na idx ci a n' : Nat} (as : List Value) {r : Option Value} {J' : mm_J} {G' : mm_G} (hl : Cond.methodLink (mm_y M).cls idx (mm_y M2) ∈ lw_t2) (hk : mm_LkV M2 na ci) (hR : mm_Rm M M2) (h : mm_Ret E M2 (.ref a :: as) n J G r n' J' G') (hs : mm_SH a = .inl ci) (ha : a < n) (hna : as.length = na) (hst : ((st.map (mm_v E)).map fun v => v.category).sum ≤ 8) (h1 : cs + (mm_R M2).cells ≤ (mm_R M).cells) (h2 : sl + (mm_R M2).slots ≤ (mm_R M).slots) (hc : mm_d M pc = some (.invokevirtual idx, 3)) (hle : n ≤ n')
    (k : mm_Go E M (pc + 3) lv (r.toList ++ st) n' J' G' (cs + (mm_R M2).cells) (sl + (mm_R M2).slots) F) : mm_Go E M pc lv (as.reverse ++ .ref a :: st) n J G cs sl F :=
  mm_callV as hl hk hR h hs ha hna hst h1 h2 hc (fun _ _ _ _ q => by obtain ⟨rfl, rfl, rfl, rfl⟩ := q; exact ⟨hle, k⟩)
theorem mm_isS {M2 : mm_M} {na idx n' : Nat} (as : List Value) {r : Option Value} {J' : mm_J} {G' : mm_G} (hl : Cond.methodLink (mm_y M).cls idx (mm_y M2) ∈ lw_t2) (hk : mm_LkS M2 na) (hR : mm_Rm M M2) (h : mm_Ret E M2 as n J G r n' J' G') (hna : as.length = na) (hst : ((st.map (mm_v E)).map fun v => v.category).sum ≤ 8) (h1 : cs + (mm_R M2).cells ≤ (mm_R M).cells) (h2 : sl + (mm_R M2).slots ≤ (mm_R M).slots) (hc : mm_d M pc = some (.invokestatic idx, 3)) (hle : n ≤ n')
    (k : mm_Go E M (pc + 3) lv (r.toList ++ st) n' J' G' (cs + (mm_R M2).cells) (sl + (mm_R M2).slots) F) : mm_Go E M pc lv (as.reverse ++ st) n J G cs sl F :=
  mm_callS as hl hk hR h hna hst h1 h2 hc (fun _ _ _ _ q => by obtain ⟨rfl, rfl, rfl, rfl⟩ := q; exact ⟨hle, k⟩)
theorem mm_isI {M2 : mm_M} {na idx a n' : Nat} (as : List Value) {r : Option Value} {J' : mm_J} {G' : mm_G} (hl : Cond.methodLink (mm_y M).cls idx (mm_y M2) ∈ lw_t2) (hk : mm_LkI M2 na) (hR : mm_Rm M M2) (h : mm_Ret E M2 (.ref a :: as) n J G r n' J' G') (hna : as.length = na) (hst : ((st.map (mm_v E)).map fun v => v.category).sum ≤ 8) (h1 : cs + (mm_R M2).cells ≤ (mm_R M).cells) (h2 : sl + (mm_R M2).slots ≤ (mm_R M).slots) (hc : mm_d M pc = some (.invokespecial idx, 3)) (hle : n ≤ n')
    (k : mm_Go E M (pc + 3) lv (r.toList ++ st) n' J' G' (cs + (mm_R M2).cells) (sl + (mm_R M2).slots) F) : mm_Go E M pc lv (as.reverse ++ .ref a :: st) n J G cs sl F :=
  mm_callI as hl hk hR h hna hst h1 h2 hc (fun _ _ _ _ q => by obtain ⟨rfl, rfl, rfl, rfl⟩ := q; exact ⟨hle, k⟩)

theorem mm_aload_nS {i : Fin 4} {z : Nat} (hc : mm_d M pc = some (.aload_n i, 1)) (hl : lv[i.val]? = some (some (.retAddr z))) (k : mm_Go E M (pc + 1) lv (.retAddr z :: st) n J G cs sl F) : mm_Go E M pc lv st n J G cs sl F := by
  intro p e s m args below meth c H locs ls C hY hL hW hS
  obtain ⟨hx, hb, hr, hml, hown, hlk, hts, hnm, ⟨hK, hX9⟩, hbs, hok⟩ := id C
  exact lv_aload_n (x := mm_sc E) hx hb (hok.1 _ _ _ hc) rfl (hL.2.2 _ _ hl).2 (k p e s m args below meth c H locs ls C hY hL hW hS)
theorem mm_sld {L z : Nat} {xs : Nat → Int32} {i : Int32} (hF : ∀ s, F.1 s → va_X (mm_sc E) L xs s s.heap ∧ mm_sc E < mm_b E) (hi : vp_in i L) (hc : mm_d M pc = some (.iaload, 1)) (k : mm_Go E M (pc + 1) lv (.int (xs i.toNatClampNeg) :: st) n J G cs sl F) : mm_Go E M pc lv (.int i :: .retAddr z :: st) n J G cs sl F := by
  intro p e s m args below meth c H locs ls C hY hL hW hS
  obtain ⟨hx, hb, hr, hml, hown, hlk, hts, hnm, ⟨hK, hX9⟩, hbs, hok⟩ := id C
  obtain ⟨hX, hsc⟩ := hF s hY
  exact va_sld hx hb hX (Nat.lt_of_lt_of_le hsc hbs) (A := mm_A E) (Nat.not_le.mpr hsc) hS hi (hok.1 _ _ _ hc) (k p e s m args below meth c H locs ls C hY hL hW hS)
theorem mm_slen {L z : Nat} {xs : Nat → Int32} (hF : ∀ s, F.1 s → va_X (mm_sc E) L xs s s.heap ∧ mm_sc E < mm_b E) (hc : mm_d M pc = some (.arraylength, 1)) (k : mm_Go E M (pc + 1) lv (.int (Int32.ofNat L) :: st) n J G cs sl F) : mm_Go E M pc lv (.retAddr z :: st) n J G cs sl F := by
  intro p e s m args below meth c H locs ls C hY hL hW hS
  obtain ⟨hx, hb, hr, hml, hown, hlk, hts, hnm, ⟨hK, hX9⟩, hbs, hok⟩ := id C
  obtain ⟨hX, hsc⟩ := hF s hY
  exact va_slen hx hb hX (Nat.lt_of_lt_of_le hsc hbs) (A := mm_A E) (Nat.not_le.mpr hsc) hS (hok.1 _ _ _ hc) (k p e s m args below meth c H locs ls C hY hL hW hS)

/-! rows for numbers that are nI of a natural number -/
theorem mm_iaddN {a b : Nat} (hc : mm_d M pc = some (.iadd, 1)) (k : mm_Go E M (pc + 1) lv (.int (nI (a + b)) :: st) n J G cs sl F) : mm_Go E M pc lv (.int (nI b) :: .int (nI a) :: st) n J G cs sl F := mm_iadd hc (by rw [nI_add]; exact k)
theorem mm_isubN {a b : Nat} (hc : mm_d M pc = some (.isub, 1)) (h : b ≤ a) (k : mm_Go E M (pc + 1) lv (.int (nI (a - b)) :: st) n J G cs sl F) : mm_Go E M pc lv (.int (nI b) :: .int (nI a) :: st) n J G cs sl F := mm_isub hc (by rw [pk_sub h]; exact k)
theorem mm_imulN {a b : Nat} (hc : mm_d M pc = some (.imul, 1)) (k : mm_Go E M (pc + 1) lv (.int (nI (a * b)) :: st) n J G cs sl F) : mm_Go E M pc lv (.int (nI b) :: .int (nI a) :: st) n J G cs sl F := mm_imul hc (by rw [pk_mul]; exact k)
theorem mm_idivN {a b : Nat} (hc : mm_d M pc = some (.idiv, 1)) (ha : a < 2 ^ 31) (h0 : 0 < b) (hb : b < 2 ^ 31) (k : mm_Go E M (pc + 1) lv (.int (nI (a / b)) :: st) n J G cs sl F) : mm_Go E M pc lv (.int (nI b) :: .int (nI a) :: st) n J G cs sl F := mm_idiv hc (nI_ne0 h0 hb) (by rw [pk_div ha h0 hb]; exact k)
theorem mm_iremN {a b : Nat} (hc : mm_d M pc = some (.irem, 1)) (ha : a < 2 ^ 31) (h0 : 0 < b) (hb : b < 2 ^ 31) (k : mm_Go E M (pc + 1) lv (.int (nI (a % b)) :: st) n J G cs sl F) : mm_Go E M pc lv (.int (nI b) :: .int (nI a) :: st) n J G cs sl F := mm_irem hc (nI_ne0 h0 hb) (by rw [pk_rem ha h0 hb]; exact k)
theorem mm_iincN {i a b : Nat} {z : Int} (hc : mm_d M pc = some (.iinc i z, 3)) (hl : lv[i]? = some (some (.int (nI a)))) (hv : nI a + Int32.ofInt z = nI b) (hn : i < mm_n M) (k : mm_Go E M (pc + 3) (lv.set i (some (.int (nI b)))) st n J G cs sl F) : mm_Go E M pc lv st n J G cs sl F := mm_iinc hc hl hv hn k
theorem mm_inc1 (a : Nat) : nI a + Int32.ofInt 1 = nI (a + 1) := nI_1 a
theorem mm_dec1 {a : Nat} (h : 0 < a) : nI a + Int32.ofInt (-1) = nI (a - 1) := sb_m1 h
theorem mm_rdN {a t len q : Nat} {x : Int32} (hs : mm_SH a = .inr (t, len)) (ht : t < mm_ty.length) (hp : mm_ty.getD t .int = .int) (ha : a < n) (hq : q < len) (h31 : len < 2 ^ 31) (hc : mm_d M pc = some (.iaload, 1)) (hv : J a q = x) (k : mm_Go E M (pc + 1) lv (.int x :: st) n J G cs sl F) : mm_Go E M pc lv (.int (nI q) :: .ref a :: st) n J G cs sl F :=
  mm_rdI hs ht hp ha (vp_in_nI hq h31) hc (by rw [nI_clamp (by omega), hv]; exact k)
theorem mm_rzN {a t len q : Nat} {x : Int32} (hs : mm_SH a = .inr (t, len)) (ht : t < mm_ty.length) (hp : mm_ty.getD t .int = .boolean) (ha : a < n) (hq : q < len) (h31 : len < 2 ^ 31) (hc : mm_d M pc = some (.baload, 1)) (hv : J a q = x) (k : mm_Go E M (pc + 1) lv (.int x :: st) n J G cs sl F) : mm_Go E M pc lv (.int (nI q) :: .ref a :: st) n J G cs sl F :=
  mm_rdZ hs ht hp ha (vp_in_nI hq h31) hc (by rw [nI_clamp (by omega), hv]; exact k)
theorem mm_rrN {a t len b q : Nat} (hs : mm_SH a = .inr (t, len)) (ht : t < mm_ty.length) (hp : (mm_ty.getD t .int).isReference = true) (hp2 : mm_rt t = true) (ha : a < n) (hq : q < len) (h31 : len < 2 ^ 31) (hg : G a q = some b) (hc : mm_d M pc = some (.aaload, 1)) (k : mm_Go E M (pc + 1) lv (.ref b :: st) n J G cs sl F) : mm_Go E M pc lv (.int (nI q) :: .ref a :: st) n J G cs sl F :=
  mm_rdR hs ht hp hp2 ha (vp_in_nI hq h31) (by rw [nI_clamp (by omega)]; exact hg) hc k
theorem mm_wrN {a t len q : Nat} {x : Int32} (hs : mm_SH a = .inr (t, len)) (ht : t < mm_ty.length) (hp : mm_ty.getD t .int = .int) (ha : a < n) (hq : q < len) (h31 : len < 2 ^ 31) (hc : mm_d M pc = some (.iastore, 1)) (k : mm_Go E M (pc + 1) lv st n (mm_set J a q x) G cs sl F) : mm_Go E M pc lv (.int x :: .int (nI q) :: .ref a :: st) n J G cs sl F :=
  mm_wrI hs ht hp ha (vp_in_nI hq h31) hc (by rw [nI_clamp (by omega)]; exact k)
theorem mm_wzN {a t len q : Nat} {x : Int32} (hs : mm_SH a = .inr (t, len)) (ht : t < mm_ty.length) (hp : mm_ty.getD t .int = .boolean) (ha : a < n) (hq : q < len) (h31 : len < 2 ^ 31) (hn : narrow .boolean (.int x) = .int x) (hc : mm_d M pc = some (.bastore, 1)) (k : mm_Go E M (pc + 1) lv st n (mm_set J a q x) G cs sl F) : mm_Go E M pc lv (.int x :: .int (nI q) :: .ref a :: st) n J G cs sl F :=
  mm_wrZ hs ht hp ha (vp_in_nI hq h31) hn hc (by rw [nI_clamp (by omega)]; exact k)
theorem mm_wqN {a t len v ci q : Nat} {C0 : String} {T : u_T} {N : Nat} (hs : mm_SH a = .inr (t, len)) (ht : t < mm_ty.length) (hp : mm_ty.getD t .int = .object C0) (ha : a < n) (hq : q < len) (h31 : len < 2 ^ 31) (hv : v < n) (hsv : mm_SH v = .inl ci) (hcl : mm_cl[ci]? = some (C0, T, N)) (hc : mm_d M pc = some (.aastore, 1)) (k : mm_Go E M (pc + 1) lv st n J (mm_sg G a q (some v)) cs sl F) : mm_Go E M pc lv (.ref v :: .int (nI q) :: .ref a :: st) n J G cs sl F :=
  mm_wrR hs ht hp ha (vp_in_nI hq h31) hv hsv hcl hc (by rw [nI_clamp (by omega)]; exact k)
theorem mm_icmp_eqN {a b : Nat} {off : Int} {tgt : Nat} (hc : mm_d M pc = some (.if_icmp .eq off, 3)) (ht : (pc : Int) + off = (tgt : Int)) (ha : a < 2 ^ 31) (hb : b < 2 ^ 31) (kt : a = b → mm_Go E M (tgt) lv (st) n J G cs sl F) (kf : ¬ a = b → mm_Go E M (pc + 3) lv (st) n J G cs sl F) : mm_Go E M (pc) lv (.int (nI b) :: .int (nI a) :: st) n J G cs sl F :=
  mm_icmp_eq hc ht (fun h => kt ((nI_eq ha hb).mp h)) (fun h => kf (fun q => h ((nI_eq ha hb).mpr q)))
theorem mm_icmp_neN {a b : Nat} {off : Int} {tgt : Nat} (hc : mm_d M pc = some (.if_icmp .ne off, 3)) (ht : (pc : Int) + off = (tgt : Int)) (ha : a < 2 ^ 31) (hb : b < 2 ^ 31) (kt : ¬ a = b → mm_Go E M (tgt) lv (st) n J G cs sl F) (kf : a = b → mm_Go E M (pc + 3) lv (st) n J G cs sl F) : mm_Go E M (pc) lv (.int (nI b) :: .int (nI a) :: st) n J G cs sl F :=
  mm_icmp_ne hc ht (fun h => kt (fun q => h ((nI_eq ha hb).mpr q))) (fun h => kf ((nI_eq ha hb).mp h))
theorem mm_icmp_ltN {a b : Nat} {off : Int} {tgt : Nat} (hc : mm_d M pc = some (.if_icmp .lt off, 3)) (ht : (pc : Int) + off = (tgt : Int)) (ha : a < 2 ^ 31) (hb : b < 2 ^ 31) (kt : a < b → mm_Go E M (tgt) lv (st) n J G cs sl F) (kf : b ≤ a → mm_Go E M (pc + 3) lv (st) n J G cs sl F) : mm_Go E M (pc) lv (.int (nI b) :: .int (nI a) :: st) n J G cs sl F :=
  mm_icmp_lt hc ht (fun h => kt ((nI_ltI ha hb).mp h)) (fun h => kf (Nat.not_lt.mp fun q => h ((nI_ltI ha hb).mpr q)))
theorem mm_icmp_geN {a b : Nat} {off : Int} {tgt : Nat} (hc : mm_d M pc = some (.if_icmp .ge off, 3)) (ht : (pc : Int) + off = (tgt : Int)) (ha : a < 2 ^ 31) (hb : b < 2 ^ 31) (kt : b ≤ a → mm_Go E M (tgt) lv (st) n J G cs sl F) (kf : a < b → mm_Go E M (pc + 3) lv (st) n J G cs sl F) : mm_Go E M (pc) lv (.int (nI b) :: .int (nI a) :: st) n J G cs sl F :=
  mm_icmp_ge hc ht (fun h => kt ((nI_leI hb ha).mp h)) (fun h => kf (Nat.not_le.mp fun q => h ((nI_leI hb ha).mpr q)))
theorem mm_icmp_gtN {a b : Nat} {off : Int} {tgt : Nat} (hc : mm_d M pc = some (.if_icmp .gt off, 3)) (ht : (pc : Int) + off = (tgt : Int)) (ha : a < 2 ^ 31) (hb : b < 2 ^ 31) (kt : b < a → mm_Go E M (tgt) lv (st) n J G cs sl F) (kf : a ≤ b → mm_Go E M (pc + 3) lv (st) n J G cs sl F) : mm_Go E M (pc) lv (.int (nI b) :: .int (nI a) :: st) n J G cs sl F :=
  mm_icmp_gt hc ht (fun h => kt ((nI_ltI hb ha).mp h)) (fun h => kf (Nat.not_lt.mp fun q => h ((nI_ltI hb ha).mpr q)))
theorem mm_icmp_leN {a b : Nat} {off : Int} {tgt : Nat} (hc : mm_d M pc = some (.if_icmp .le off, 3)) (ht : (pc : Int) + off = (tgt : Int)) (ha : a < 2 ^ 31) (hb : b < 2 ^ 31) (kt : a ≤ b → mm_Go E M (tgt) lv (st) n J G cs sl F) (kf : b < a → mm_Go E M (pc + 3) lv (st) n J G cs sl F) : mm_Go E M (pc) lv (.int (nI b) :: .int (nI a) :: st) n J G cs sl F :=
  mm_icmp_le hc ht (fun h => kt ((nI_leI ha hb).mp h)) (fun h => kf (Nat.not_le.mp fun q => h ((nI_leI ha hb).mpr q)))
theorem mm_if_eqN {a : Nat} {off : Int} {tgt : Nat} (hc : mm_d M pc = some (.ifCond .eq off, 3)) (ht : (pc : Int) + off = (tgt : Int)) (ha : a < 2 ^ 31) (kt : a = 0 → mm_Go E M (tgt) lv (st) n J G cs sl F) (kf : ¬ a = 0 → mm_Go E M (pc + 3) lv (st) n J G cs sl F) : mm_Go E M (pc) lv (.int (nI a) :: st) n J G cs sl F :=
  mm_if_eq hc ht (fun h => kt ((nI_eq ha (show (0 : Nat) < 2 ^ 31 by decide)).mp h)) (fun h => kf (fun q => h ((nI_eq ha (show (0 : Nat) < 2 ^ 31 by decide)).mpr q)))
theorem mm_if_neN {a : Nat} {off : Int} {tgt : Nat} (hc : mm_d M pc = some (.ifCond .ne off, 3)) (ht : (pc : Int) + off = (tgt : Int)) (ha : a < 2 ^ 31) (kt : ¬ a = 0 → mm_Go E M (tgt) lv (st) n J G cs sl F) (kf : a = 0 → mm_Go E M (pc + 3) lv (st) n J G cs sl F) : mm_Go E M (pc) lv (.int (nI a) :: st) n J G cs sl F :=
  mm_if_ne hc ht (fun h => kt (fun q => h ((nI_eq ha (show (0 : Nat) < 2 ^ 31 by decide)).mpr q))) (fun h => kf ((nI_eq ha (show (0 : Nat) < 2 ^ 31 by decide)).mp h))
theorem mm_if_gtN {a : Nat} {off : Int} {tgt : Nat} (hc : mm_d M pc = some (.ifCond .gt off, 3)) (ht : (pc : Int) + off = (tgt : Int)) (ha : a < 2 ^ 31) (kt : 0 < a → mm_Go E M (tgt) lv (st) n J G cs sl F) (kf : a = 0 → mm_Go E M (pc + 3) lv (st) n J G cs sl F) : mm_Go E M (pc) lv (.int (nI a) :: st) n J G cs sl F :=
  mm_if_gt hc ht (fun h => kt ((nI_ltI (show (0 : Nat) < 2 ^ 31 by decide) ha).mp h)) (fun h => kf (Nat.le_zero.mp (Nat.not_lt.mp fun q => h ((nI_ltI (show (0 : Nat) < 2 ^ 31 by decide) ha).mpr q))))
theorem mm_if_leN {a : Nat} {off : Int} {tgt : Nat} (hc : mm_d M pc = some (.ifCond .le off, 3)) (ht : (pc : Int) + off = (tgt : Int)) (ha : a < 2 ^ 31) (kt : a = 0 → mm_Go E M (tgt) lv (st) n J G cs sl F) (kf : 0 < a → mm_Go E M (pc + 3) lv (st) n J G cs sl F) : mm_Go E M (pc) lv (.int (nI a) :: st) n J G cs sl F :=
  mm_if_le hc ht (fun h => kt (Nat.le_zero.mp ((nI_leI ha (show (0 : Nat) < 2 ^ 31 by decide)).mp h))) (fun h => kf (Nat.not_le.mp fun q => h ((nI_leI ha (show (0 : Nat) < 2 ^ 31 by decide)).mpr q)))
theorem mm_if_ltN {a : Nat} {off : Int} {tgt : Nat} (hc : mm_d M pc = some (.ifCond .lt off, 3)) (ht : (pc : Int) + off = (tgt : Int)) (ha : a < 2 ^ 31) (k : mm_Go E M (pc + 3) lv (st) n J G cs sl F) : mm_Go E M (pc) lv (.int (nI a) :: st) n J G cs sl F := mm_if_lt hc ht (fun h => absurd h (nI_pos ha)) (fun _ => k)
theorem mm_if_geN {a : Nat} {off : Int} {tgt : Nat} (hc : mm_d M pc = some (.ifCond .ge off, 3)) (ht : (pc : Int) + off = (tgt : Int)) (ha : a < 2 ^ 31) (k : mm_Go E M (tgt) lv (st) n J G cs sl F) : mm_Go E M (pc) lv (.int (nI a) :: st) n J G cs sl F := mm_if_ge hc ht (fun _ => k) (fun h => absurd (nI_pos' ha) h)
end MMR
