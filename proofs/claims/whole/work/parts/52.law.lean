def R_law : String := "EditorCoreLaw"
def lw_P (b : Addr) (xs : List Int32) (args : Array Value) (s : State) : Prop := args = #[.ref b] ∧ s.IntsAt b xs ∧ xs.length ≤ 2560 ∧ (Jvm.Cond.and given_1 narrow_1).before args s = true
def lw_Q (_ : Array Value) (s : State) (o : Outcome) (t : State) : Prop := o = .returned (some (.int 1)) ∧ Framed s o t [] 600000 7302250
def lw_Z (below : List Frame) (a : Array Value) (s : State) : State → Prop := fun t => ∃ o, t.status = .running ∧ Ended t below o ∧ lw_Q a s o t
/-- the law's own end, with 1 on the stack, nothing written that was there before, its room as the claim has it -/
theorem lw_ret {p : Program} {l : Launch} {e : Env} {s : State} {m : MethodId} {below : List Frame} {meth : Method} {c : Code} {b : Nat} (hx : p.tables.exec = Jvm.exec) (hb : c.code = code) (hr : meth.sig.returnType = ret) (hlocks : meth.locks = false) {pc : Nat} {H : Heap} {ls : Array Slot} (hdg : decode code pc = .ok (.ireturn, 1)) : W p l e room_1 s m #[Value.ref b] below meth c H [] 600000 7302250 (lw_Z below #[Value.ref b] s) (F0 m pc ls [.int 1]) := by
  intro T hT X
  obtain ⟨fs, hret, hrun, hended, hW, hframe⟩ := X.leave (v := some (.int 1)) (hlocks := hlocks) (fun h => by rw [hr] at h; cases h)
  have hmeth' : T.vm.method? m = some meth := X.method'
  refine ⟨T.setFrames fs, ?_, .returned (some (.int 1)), hrun, hended, rfl, ⟨_, rfl⟩, hW, hframe⟩
  jvm_step X.here [X.here.top, hx, hb, hdg, hmeth', hr, ret, narrow_b1]
  (try refine ⟨rfl, ?_⟩); (try refine ⟨rfl, ?_⟩)
  first | (intro acts; rw [hret _ acts rfl rfl rfl]) | rw [hret _ _ rfl rfl rfl]
  exact Steps.refl _
/-- what holds at the law's entry: the machine, the code, the tables' words (any of lw_tbl by 'hts w (by decide +kernel)'), the script of L ints xs at the cell b, what the Statement gives of the start (any of its parts by flat_of_before) -/
def lw_At (p : Program) (s : State) (m : MethodId) (meth : Method) (c : Code) (b L : Nat) (xs : Nat → Int32) : Prop :=
  p.tables.exec = Jvm.exec ∧ c.code = code ∧ meth.sig.returnType = ret ∧ c.maxLocals = 4 ∧ s.vm.findClass R_law = some m.cls ∧ (∀ w ∈ lw_tbl, w.before #[Value.ref b] s = true) ∧ va_X b L xs s s.heap ∧ b < s.heap.size ∧ meth.locks = false ∧ (Jvm.Cond.and given_1 narrow_1).before #[Value.ref b] s = true
def qW_law_t : List (Nat × Instr × Nat) := [(0, .new 7, 3), (3, .dup, 1), (4, .invokespecial 9, 3), (7, .astore_n 1, 1), (8, .new 10, 3), (11, .dup, 1), (12, .invokespecial 12, 3), (15, .astore_n 2, 1), (16, .iconst 0, 1), (17, .istore_n 3, 1), (18, .iload_n 3, 1), (19, .aload_n 0, 1), (20, .arraylength, 1), (21, .iconst 5, 1), (22, .isub, 1), (23, .if_icmp .gt 484, 3), (26, .aload_n 0, 1), (27, .iload_n 3, 1), (28, .iaload, 1), (29, .bipush 15, 2), (31, .iand, 1), (32, .tableswitch 469 0 12 #[68, 91, 114, 137, 190, 213, 252, 301, 334, 357, 380, 413, 446], 68), (100, .aload_n 1, 1), (101, .aload_n 0, 1), (102, .iload_n 3, 1), (103, .iconst 1, 1), (104, .iadd, 1), (105, .iaload, 1), (106, .invokevirtual 13, 3), (109, .aload_n 2, 1), (110, .aload_n 0, 1), (111, .iload_n 3, 1), (112, .iconst 1, 1), (113, .iadd, 1), (114, .iaload, 1), (115, .invokevirtual 17, 3), (118, .if_icmp .eq 383, 3), (121, .iconst 0, 1), (122, .ireturn, 1), (123, .aload_n 1, 1), (124, .aload_n 0, 1), (125, .iload_n 3, 1), (126, .iconst 1, 1), (127, .iadd, 1), (128, .iaload, 1), (129, .invokevirtual 18, 3), (132, .aload_n 2, 1), (133, .aload_n 0, 1), (134, .iload_n 3, 1), (135, .iconst 1, 1), (136, .iadd, 1), (137, .iaload, 1), (138, .invokevirtual 21, 3), (141, .if_icmp .eq 360, 3), (144, .iconst 0, 1), (145, .ireturn, 1), (146, .aload_n 1, 1), (147, .aload_n 0, 1), (148, .iload_n 3, 1), (149, .iconst 1, 1), (150, .iadd, 1), (151, .iaload, 1), (152, .invokevirtual 22, 3), (155, .aload_n 2, 1), (156, .aload_n 0, 1), (157, .iload_n 3, 1), (158, .iconst 1, 1), (159, .iadd, 1), (160, .iaload, 1), (161, .invokevirtual 25, 3), (164, .if_icmp .eq 337, 3), (167, .iconst 0, 1), (168, .ireturn, 1), (169, .aload_n 1, 1), (170, .aload_n 0, 1), (171, .iload_n 3, 1), (172, .iconst 1, 1), (173, .iadd, 1), (174, .iaload, 1), (175, .aload_n 0, 1), (176, .iload_n 3, 1), (177, .iconst 2, 1), (178, .iadd, 1), (179, .iaload, 1), (180, .aload_n 0, 1), (181, .iload_n 3, 1), (182, .iconst 3, 1), (183, .iadd, 1), (184, .iaload, 1), (185, .aload_n 0, 1), (186, .iload_n 3, 1), (187, .iconst 4, 1), (188, .iadd, 1), (189, .iaload, 1), (190, .invokevirtual 26, 3), (193, .aload_n 2, 1), (194, .aload_n 0, 1), (195, .iload_n 3, 1), (196, .iconst 1, 1), (197, .iadd, 1), (198, .iaload, 1), (199, .aload_n 0, 1), (200, .iload_n 3, 1), (201, .iconst 2, 1), (202, .iadd, 1), (203, .iaload, 1), (204, .aload_n 0, 1), (205, .iload_n 3, 1), (206, .iconst 3, 1), (207, .iadd, 1), (208, .iaload, 1), (209, .aload_n 0, 1), (210, .iload_n 3, 1), (211, .iconst 4, 1), (212, .iadd, 1), (213, .iaload, 1), (214, .invokevirtual 30, 3), (217, .if_icmp .eq 284, 3), (220, .iconst 0, 1), (221, .ireturn, 1), (222, .aload_n 1, 1), (223, .aload_n 0, 1), (224, .iload_n 3, 1), (225, .iconst 1, 1), (226, .iadd, 1), (227, .iaload, 1), (228, .invokevirtual 31, 3), (231, .aload_n 2, 1), (232, .aload_n 0, 1), (233, .iload_n 3, 1), (234, .iconst 1, 1), (235, .iadd, 1), (236, .iaload, 1), (237, .invokevirtual 34, 3), (240, .if_icmp .eq 261, 3), (243, .iconst 0, 1), (244, .ireturn, 1), (245, .aload_n 1, 1), (246, .aload_n 0, 1), (247, .iload_n 3, 1), (248, .iconst 1, 1), (249, .iadd, 1), (250, .iaload, 1), (251, .ifCond .eq 7, 3), (254, .iconst 1, 1), (255, .goto 4, 3), (258, .iconst 0, 1), (259, .invokevirtual 35, 3), (262, .aload_n 2, 1), (263, .aload_n 0, 1), (264, .iload_n 3, 1), (265, .iconst 1, 1), (266, .iadd, 1), (267, .iaload, 1), (268, .ifCond .eq 7, 3), (271, .iconst 1, 1), (272, .goto 4, 3), (275, .iconst 0, 1), (276, .invokevirtual 39, 3), (279, .if_icmp .eq 222, 3), (282, .iconst 0, 1), (283, .ireturn, 1), (284, .aload_n 1, 1), (285, .aload_n 0, 1), (286, .iload_n 3, 1), (287, .iconst 1, 1), (288, .iadd, 1), (289, .iaload, 1), (290, .aload_n 0, 1), (291, .iload_n 3, 1), (292, .iconst 2, 1), (293, .iadd, 1), (294, .iaload, 1), (295, .ifCond .eq 7, 3), (298, .iconst 1, 1), (299, .goto 4, 3), (302, .iconst 0, 1), (303, .invokevirtual 40, 3), (306, .aload_n 2, 1), (307, .aload_n 0, 1), (308, .iload_n 3, 1), (309, .iconst 1, 1), (310, .iadd, 1), (311, .iaload, 1), (312, .aload_n 0, 1), (313, .iload_n 3, 1), (314, .iconst 2, 1), (315, .iadd, 1), (316, .iaload, 1), (317, .ifCond .eq 7, 3), (320, .iconst 1, 1), (321, .goto 4, 3), (324, .iconst 0, 1), (325, .invokevirtual 44, 3), (328, .if_icmp .eq 173, 3), (331, .iconst 0, 1), (332, .ireturn, 1), (333, .aload_n 1, 1), (334, .aload_n 0, 1), (335, .iload_n 3, 1), (336, .iconst 1, 1), (337, .iadd, 1), (338, .iaload, 1), (339, .aload_n 0, 1), (340, .iload_n 3, 1), (341, .iconst 2, 1), (342, .iadd, 1), (343, .iaload, 1), (344, .invokevirtual 45, 3), (347, .aload_n 2, 1), (348, .aload_n 0, 1), (349, .iload_n 3, 1), (350, .iconst 1, 1), (351, .iadd, 1), (352, .iaload, 1), (353, .aload_n 0, 1), (354, .iload_n 3, 1), (355, .iconst 2, 1), (356, .iadd, 1), (357, .iaload, 1), (358, .invokevirtual 49, 3), (361, .if_icmp .eq 140, 3), (364, .iconst 0, 1), (365, .ireturn, 1), (366, .aload_n 1, 1), (367, .aload_n 0, 1), (368, .iload_n 3, 1), (369, .iconst 1, 1), (370, .iadd, 1), (371, .iaload, 1), (372, .invokevirtual 50, 3), (375, .aload_n 2, 1), (376, .aload_n 0, 1), (377, .iload_n 3, 1), (378, .iconst 1, 1), (379, .iadd, 1), (380, .iaload, 1), (381, .invokevirtual 53, 3), (384, .if_icmp .eq 117, 3), (387, .iconst 0, 1), (388, .ireturn, 1), (389, .aload_n 1, 1), (390, .aload_n 0, 1), (391, .iload_n 3, 1), (392, .iconst 1, 1), (393, .iadd, 1), (394, .iaload, 1), (395, .invokevirtual 54, 3), (398, .aload_n 2, 1), (399, .aload_n 0, 1), (400, .iload_n 3, 1), (401, .iconst 1, 1), (402, .iadd, 1), (403, .iaload, 1), (404, .invokevirtual 57, 3), (407, .if_icmp .eq 94, 3), (410, .iconst 0, 1), (411, .ireturn, 1), (412, .aload_n 1, 1), (413, .aload_n 0, 1), (414, .iload_n 3, 1), (415, .iconst 1, 1), (416, .iadd, 1), (417, .iaload, 1), (418, .aload_n 0, 1), (419, .iload_n 3, 1), (420, .iconst 2, 1), (421, .iadd, 1), (422, .iaload, 1), (423, .invokevirtual 58, 3), (426, .aload_n 2, 1), (427, .aload_n 0, 1), (428, .iload_n 3, 1), (429, .iconst 1, 1), (430, .iadd, 1), (431, .iaload, 1), (432, .aload_n 0, 1), (433, .iload_n 3, 1), (434, .iconst 2, 1), (435, .iadd, 1), (436, .iaload, 1), (437, .invokevirtual 61, 3), (440, .if_icmp .eq 61, 3), (443, .iconst 0, 1), (444, .ireturn, 1), (445, .aload_n 1, 1), (446, .aload_n 0, 1), (447, .iload_n 3, 1), (448, .iconst 1, 1), (449, .iadd, 1), (450, .iaload, 1), (451, .aload_n 0, 1), (452, .iload_n 3, 1), (453, .iconst 2, 1), (454, .iadd, 1), (455, .iaload, 1), (456, .invokevirtual 62, 3), (459, .aload_n 2, 1), (460, .aload_n 0, 1), (461, .iload_n 3, 1), (462, .iconst 1, 1), (463, .iadd, 1), (464, .iaload, 1), (465, .aload_n 0, 1), (466, .iload_n 3, 1), (467, .iconst 2, 1), (468, .iadd, 1), (469, .iaload, 1), (470, .invokevirtual 65, 3), (473, .if_icmp .eq 28, 3), (476, .iconst 0, 1), (477, .ireturn, 1), (478, .aload_n 1, 1), (479, .aload_n 0, 1), (480, .iload_n 3, 1), (481, .iconst 1, 1), (482, .iadd, 1), (483, .iaload, 1), (484, .invokevirtual 66, 3), (487, .aload_n 2, 1), (488, .aload_n 0, 1), (489, .iload_n 3, 1), (490, .iconst 1, 1), (491, .iadd, 1), (492, .iaload, 1), (493, .invokevirtual 69, 3), (496, .if_icmp .eq 5, 3), (499, .iconst 0, 1), (500, .ireturn, 1), (501, .iinc 3 5, 3), (504, .goto (-486), 3), (507, .iconst 1, 1), (508, .ireturn, 1)]
def qW_law : mm_M := (⟨"EditorCoreLaw", "law", "([I)Z"⟩, code, mm_cd qW_law_t, 4, some .boolean, room_1, fun _ => none)
theorem qW_law_ok : mm_ok qW_law := ⟨mm_cd_ok qW_law_t (by decide +kernel), fun _ _ _ h => (by cases h)⟩
theorem lw_retA {p : Program} {l : Launch} {e : Env} {s : State} {m : MethodId} {args : Array Value} {below : List Frame} {meth : Method} {c : Code} (hx : p.tables.exec = Jvm.exec) (hb : c.code = code) (hr : meth.sig.returnType = ret) (hlocks : meth.locks = false) {pc : Nat} {H : Heap} {ls : Array Slot} (hdg : decode code pc = .ok (.ireturn, 1)) : W p l e room_1 s m args below meth c H [] 600000 7302250 (lw_Z below args s) (F0 m pc ls [.int 1]) := by
  intro T hT X
  obtain ⟨fs, hret, hrun, hended, hW, hframe⟩ := X.leave (v := some (.int 1)) (hlocks := hlocks) (fun h => by rw [hr] at h; cases h)
  have hmeth' : T.vm.method? m = some meth := X.method'
  refine ⟨T.setFrames fs, ?_, .returned (some (.int 1)), hrun, hended, rfl, ⟨_, rfl⟩, hW, hframe⟩
  jvm_step X.here [X.here.top, hx, hb, hdg, hmeth', hr, ret, narrow_b1]
  (try refine ⟨rfl, ?_⟩); (try refine ⟨rfl, ?_⟩)
  first | (intro acts; rw [hret _ acts rfl rfl rfl]) | rw [hret _ _ rfl rfl rfl]
  exact Steps.refl _
def lw_F (E : mm_E) (L : Nat) (xs : Nat → Int32) : mm_F := (fun s => va_X (mm_sc E) L xs s s.heap ∧ mm_sc E < mm_b E ∧ mm_b E = s.heap.size, fun below args s => lw_Z below args s)
theorem lw_end {E : mm_E} {L pc n cs sl : Nat} {xs : Nat → Int32} {lv : List (Option Value)} {J : mm_J} {G : mm_G} (hc : mm_d qW_law pc = some (.ireturn, 1)) (h1 : cs ≤ 600000) (h2 : sl ≤ 7302250) : mm_Go E qW_law pc lv [.int (nI 1)] n J G cs sl (lw_F E L xs) := by
  intro p e s m args below meth c H locs ls C hY hL hW hS
  obtain ⟨hx, hb, hr, hml, hown, hlk, hts, hnm, ⟨hK, hX9⟩, hbs, hok⟩ := id C
  refine va_forget (fun q hq => ?_) ?_
  · have h3 := hS.2.2 q hq
    have h4 : mm_b E = s.heap.size := hY.2.2
    rw [← h4]
    exact h3
  · refine W.widen (k := 600000) (n := 7302250) h1 h2 ?_
    exact lw_retA hx hb hr hlk (hok.1 _ _ _ hc)
theorem lw_cmp {L i : Nat} (hL : L ≤ 2560) (hi : i ≤ 5000) (h : ¬ Int32.ofNat L - nI 5 < nI i) : i + 5 ≤ L := by
  replace h : ¬ nI L - nI 5 < nI i := h
  rcases Nat.lt_or_ge L 5 with q | q
  · have h1 : nI L - nI 5 < 0 := pk_sneg (by decide) q
    exact absurd (Int32.lt_of_lt_of_le h1 (Int32.not_lt.mp (nI_pos (by omega)))) h
  · rw [pk_sub q, nI_ltI (by omega) (by omega)] at h
    omega
theorem lw_cmp0 {L i : Nat} (hL : L ≤ 2560) (hi : i ≤ 5000) (h : L < i + 5) : Int32.ofNat L - nI 5 < nI i := by
  rcases Nat.lt_or_ge L 5 with q | q
  · have h1 : nI L - nI 5 < 0 := pk_sneg (by decide) q
    exact Int32.lt_of_lt_of_le h1 (Int32.not_lt.mp (nI_pos (by omega)))
  · show nI L - nI 5 < nI i
    rw [pk_sub q, nI_ltI (by omega) (by omega)]
    omega
theorem lw_and (v : Int32) : ∃ k, k < 16 ∧ v &&& nI 15 = nI k := by
  refine ⟨(v &&& nI 15).toBitVec.toNat, ?_, ?_⟩
  · rw [Int32.toBitVec_and, BitVec.toNat_and]
    exact Nat.lt_of_le_of_lt Nat.and_le_right (by decide)
  · apply Int32.toBitVec_inj.mp
    show _ = BitVec.ofNat 32 _
    rw [BitVec.ofNat_toNat]
    rfl
set_option maxRecDepth 100000 in
set_option maxHeartbeats 800000 in
theorem lw_c0 {E : mm_E} {L i : Nat} {xs : Nat → Int32} {v : ed_V} {J : mm_J} {G : mm_G} (hL : L ≤ 2560) (hi : i + 5 ≤ L) (hS : ed_SS v J G) (hm : v_m v < 2 ^ 28) (kk : ∀ v2 J2 G2, ed_SS v2 J2 G2 → v_m v2 ≤ v_m v + 1 → mm_Go E qW_law 501 [some (.retAddr 0), some (.ref 0), some (.ref 69), some (.int (nI i))] [] 86 J2 G2 86 5770 (lw_F E L xs)) : mm_Go E qW_law 100 [some (.retAddr 0), some (.ref 0), some (.ref 69), some (.int (nI i))] [] 86 J G 86 5770 (lw_F E L xs) := by
  refine mm_aload_n rfl rfl ?_
  refine mm_aload_nS rfl rfl ?_
  refine mm_iload_n rfl rfl ?_
  refine mm_iconst (v := nI 1) rfl (by decide) ?_
  refine mm_iaddN rfl ?_
  refine mm_sld (fun s h => ⟨h.1, h.2.1⟩) (vp_in_nI (n := i + 1) (by omega) (by omega)) rfl ?_
  refine mm_mV1 (M2 := qE_type) wd_211 qE_type_k (by decide) (ed_BB.of2 (p2_type hS.1 hS.2.1 hS.2.2 (by omega))) rfl (by decide) (Nat.le_of_ble_eq_true rfl) (by decide) (by decide) rfl (fun r n1 J1 G1 hP => ?_)
  obtain ⟨rfl, x1, rfl, hP2⟩ := hP
  refine ⟨Nat.le_refl _, ?_⟩
  refine mm_aload_n rfl rfl ?_
  refine mm_aload_nS rfl rfl ?_
  refine mm_iload_n rfl rfl ?_
  refine mm_iconst (v := nI 1) rfl (by decide) ?_
  refine mm_iaddN rfl ?_
  refine mm_sld (fun s h => ⟨h.1, h.2.1⟩) (vp_in_nI (n := i + 1) (by omega) (by omega)) rfl ?_
  refine mm_mV1 (M2 := qR_type) wd_627 qR_type_k (by decide) hP2 rfl (by decide) (Nat.le_of_ble_eq_true rfl) (by decide) (by decide) rfl (fun r n2 J2 G2 hQ => ?_)
  obtain ⟨rfl, rfl, v2, hS2, hm2⟩ := hQ
  refine ⟨Nat.le_refl _, ?_⟩
  refine mm_icmp_eq (tgt := 501) rfl (by decide) (fun h118 => ?_) (fun h118 => ?_)
  · exact kk _ _ _ hS2 hm2
  · exact absurd rfl h118
set_option maxRecDepth 100000 in
set_option maxHeartbeats 800000 in
theorem lw_c1 {E : mm_E} {L i : Nat} {xs : Nat → Int32} {v : ed_V} {J : mm_J} {G : mm_G} (hL : L ≤ 2560) (hi : i + 5 ≤ L) (hS : ed_SS v J G) (hm : v_m v < 2 ^ 28) (kk : ∀ v2 J2 G2, ed_SS v2 J2 G2 → v_m v2 ≤ v_m v + 117 → mm_Go E qW_law 501 [some (.retAddr 0), some (.ref 0), some (.ref 69), some (.int (nI i))] [] 86 J2 G2 86 5770 (lw_F E L xs)) : mm_Go E qW_law 123 [some (.retAddr 0), some (.ref 0), some (.ref 69), some (.int (nI i))] [] 86 J G 86 5770 (lw_F E L xs) := by
  refine mm_aload_n rfl rfl ?_
  refine mm_aload_nS rfl rfl ?_
  refine mm_iload_n rfl rfl ?_
  refine mm_iconst (v := nI 1) rfl (by decide) ?_
  refine mm_iaddN rfl ?_
  refine mm_sld (fun s h => ⟨h.1, h.2.1⟩) (vp_in_nI (n := i + 1) (by omega) (by omega)) rfl ?_
  refine mm_mV1 (M2 := qE_command) wd_272 qE_command_k (by decide) (ed_BB.of2 (p2_command hS.1 hS.2.1 hS.2.2 (by omega))) rfl (by decide) (Nat.le_of_ble_eq_true rfl) (by decide) (by decide) rfl (fun r n1 J1 G1 hP => ?_)
  obtain ⟨rfl, x1, rfl, hP2⟩ := hP
  refine ⟨Nat.le_refl _, ?_⟩
  refine mm_aload_n rfl rfl ?_
  refine mm_aload_nS rfl rfl ?_
  refine mm_iload_n rfl rfl ?_
  refine mm_iconst (v := nI 1) rfl (by decide) ?_
  refine mm_iaddN rfl ?_
  refine mm_sld (fun s h => ⟨h.1, h.2.1⟩) (vp_in_nI (n := i + 1) (by omega) (by omega)) rfl ?_
  refine mm_mV1 (M2 := qR_command) wd_657 qR_command_k (by decide) hP2 rfl (by decide) (Nat.le_of_ble_eq_true rfl) (by decide) (by decide) rfl (fun r n2 J2 G2 hQ => ?_)
  obtain ⟨rfl, rfl, v2, hS2, hm2⟩ := hQ
  refine ⟨Nat.le_refl _, ?_⟩
  refine mm_icmp_eq (tgt := 501) rfl (by decide) (fun h141 => ?_) (fun h141 => ?_)
  · exact kk _ _ _ hS2 hm2
  · exact absurd rfl h141
set_option maxRecDepth 100000 in
set_option maxHeartbeats 800000 in
theorem lw_c2 {E : mm_E} {L i : Nat} {xs : Nat → Int32} {v : ed_V} {J : mm_J} {G : mm_G} (hL : L ≤ 2560) (hi : i + 5 ≤ L) (hS : ed_SS v J G) (hm : v_m v < 2 ^ 28) (kk : ∀ v2 J2 G2, ed_SS v2 J2 G2 → v_m v2 ≤ v_m v + 0 → mm_Go E qW_law 501 [some (.retAddr 0), some (.ref 0), some (.ref 69), some (.int (nI i))] [] 86 J2 G2 86 5770 (lw_F E L xs)) : mm_Go E qW_law 146 [some (.retAddr 0), some (.ref 0), some (.ref 69), some (.int (nI i))] [] 86 J G 86 5770 (lw_F E L xs) := by
  refine mm_aload_n rfl rfl ?_
  refine mm_aload_nS rfl rfl ?_
  refine mm_iload_n rfl rfl ?_
  refine mm_iconst (v := nI 1) rfl (by decide) ?_
  refine mm_iaddN rfl ?_
  refine mm_sld (fun s h => ⟨h.1, h.2.1⟩) (vp_in_nI (n := i + 1) (by omega) (by omega)) rfl ?_
  refine mm_mV1 (M2 := qE_argument) wd_412 qE_argument_k (by decide) (ed_BB.of2 (p2_argument hS.1 hS.2.1 hS.2.2)) rfl (by decide) (Nat.le_of_ble_eq_true rfl) (by decide) (by decide) rfl (fun r n1 J1 G1 hP => ?_)
  obtain ⟨rfl, x1, rfl, hP2⟩ := hP
  refine ⟨Nat.le_refl _, ?_⟩
  refine mm_aload_n rfl rfl ?_
  refine mm_aload_nS rfl rfl ?_
  refine mm_iload_n rfl rfl ?_
  refine mm_iconst (v := nI 1) rfl (by decide) ?_
  refine mm_iaddN rfl ?_
  refine mm_sld (fun s h => ⟨h.1, h.2.1⟩) (vp_in_nI (n := i + 1) (by omega) (by omega)) rfl ?_
  refine mm_mV1 (M2 := qR_argument) wd_733 qR_argument_k (by decide) hP2 rfl (by decide) (Nat.le_of_ble_eq_true rfl) (by decide) (by decide) rfl (fun r n2 J2 G2 hQ => ?_)
  obtain ⟨rfl, rfl, v2, hS2, hm2⟩ := hQ
  refine ⟨Nat.le_refl _, ?_⟩
  refine mm_icmp_eq (tgt := 501) rfl (by decide) (fun h164 => ?_) (fun h164 => ?_)
  · exact kk _ _ _ hS2 hm2
  · exact absurd rfl h164
set_option maxRecDepth 100000 in
set_option maxHeartbeats 800000 in
theorem lw_c3 {E : mm_E} {L i : Nat} {xs : Nat → Int32} {v : ed_V} {J : mm_J} {G : mm_G} (hL : L ≤ 2560) (hi : i + 5 ≤ L) (hS : ed_SS v J G) (hm : v_m v < 2 ^ 28) (kk : ∀ v2 J2 G2, ed_SS v2 J2 G2 → v_m v2 ≤ v_m v + 0 → mm_Go E qW_law 501 [some (.retAddr 0), some (.ref 0), some (.ref 69), some (.int (nI i))] [] 86 J2 G2 86 5770 (lw_F E L xs)) : mm_Go E qW_law 169 [some (.retAddr 0), some (.ref 0), some (.ref 69), some (.int (nI i))] [] 86 J G 86 5770 (lw_F E L xs) := by
  refine mm_aload_n rfl rfl ?_
  refine mm_aload_nS rfl rfl ?_
  refine mm_iload_n rfl rfl ?_
  refine mm_iconst (v := nI 1) rfl (by decide) ?_
  refine mm_iaddN rfl ?_
  refine mm_sld (fun s h => ⟨h.1, h.2.1⟩) (vp_in_nI (n := i + 1) (by omega) (by omega)) rfl ?_
  refine mm_aload_nS rfl rfl ?_
  refine mm_iload_n rfl rfl ?_
  refine mm_iconst (v := nI 2) rfl (by decide) ?_
  refine mm_iaddN rfl ?_
  refine mm_sld (fun s h => ⟨h.1, h.2.1⟩) (vp_in_nI (n := i + 2) (by omega) (by omega)) rfl ?_
  refine mm_aload_nS rfl rfl ?_
  refine mm_iload_n rfl rfl ?_
  refine mm_iconst (v := nI 3) rfl (by decide) ?_
  refine mm_iaddN rfl ?_
  refine mm_sld (fun s h => ⟨h.1, h.2.1⟩) (vp_in_nI (n := i + 3) (by omega) (by omega)) rfl ?_
  refine mm_aload_nS rfl rfl ?_
  refine mm_iload_n rfl rfl ?_
  refine mm_iconst (v := nI 4) rfl (by decide) ?_
  refine mm_iaddN rfl ?_
  refine mm_sld (fun s h => ⟨h.1, h.2.1⟩) (vp_in_nI (n := i + 4) (by omega) (by omega)) rfl ?_
  refine mm_mV4 (M2 := qE_bind) wd_416 qE_bind_k (by decide) (bb_bind hS) rfl (by decide) (Nat.le_of_ble_eq_true rfl) (by decide) (by decide) rfl (fun r n1 J1 G1 hP => ?_)
  obtain ⟨rfl, x1, rfl, hP2⟩ := hP
  refine ⟨Nat.le_refl _, ?_⟩
  refine mm_aload_n rfl rfl ?_
  refine mm_aload_nS rfl rfl ?_
  refine mm_iload_n rfl rfl ?_
  refine mm_iconst (v := nI 1) rfl (by decide) ?_
  refine mm_iaddN rfl ?_
  refine mm_sld (fun s h => ⟨h.1, h.2.1⟩) (vp_in_nI (n := i + 1) (by omega) (by omega)) rfl ?_
  refine mm_aload_nS rfl rfl ?_
  refine mm_iload_n rfl rfl ?_
  refine mm_iconst (v := nI 2) rfl (by decide) ?_
  refine mm_iaddN rfl ?_
  refine mm_sld (fun s h => ⟨h.1, h.2.1⟩) (vp_in_nI (n := i + 2) (by omega) (by omega)) rfl ?_
  refine mm_aload_nS rfl rfl ?_
  refine mm_iload_n rfl rfl ?_
  refine mm_iconst (v := nI 3) rfl (by decide) ?_
  refine mm_iaddN rfl ?_
  refine mm_sld (fun s h => ⟨h.1, h.2.1⟩) (vp_in_nI (n := i + 3) (by omega) (by omega)) rfl ?_
  refine mm_aload_nS rfl rfl ?_
  refine mm_iload_n rfl rfl ?_
  refine mm_iconst (v := nI 4) rfl (by decide) ?_
  refine mm_iaddN rfl ?_
  refine mm_sld (fun s h => ⟨h.1, h.2.1⟩) (vp_in_nI (n := i + 4) (by omega) (by omega)) rfl ?_
  refine mm_mV4 (M2 := qR_bind) wd_611 qR_bind_k (by decide) hP2 rfl (by decide) (Nat.le_of_ble_eq_true rfl) (by decide) (by decide) rfl (fun r n2 J2 G2 hQ => ?_)
  obtain ⟨rfl, rfl, v2, hS2, hm2⟩ := hQ
  refine ⟨Nat.le_refl _, ?_⟩
  refine mm_icmp_eq (tgt := 501) rfl (by decide) (fun h217 => ?_) (fun h217 => ?_)
  · exact kk _ _ _ hS2 hm2
  · exact absurd rfl h217
set_option maxRecDepth 100000 in
set_option maxHeartbeats 800000 in
theorem lw_c4 {E : mm_E} {L i : Nat} {xs : Nat → Int32} {v : ed_V} {J : mm_J} {G : mm_G} (hL : L ≤ 2560) (hi : i + 5 ≤ L) (hS : ed_SS v J G) (hm : v_m v < 2 ^ 28) (kk : ∀ v2 J2 G2, ed_SS v2 J2 G2 → v_m v2 ≤ v_m v + 117 → mm_Go E qW_law 501 [some (.retAddr 0), some (.ref 0), some (.ref 69), some (.int (nI i))] [] 86 J2 G2 86 5770 (lw_F E L xs)) : mm_Go E qW_law 222 [some (.retAddr 0), some (.ref 0), some (.ref 69), some (.int (nI i))] [] 86 J G 86 5770 (lw_F E L xs) := by
  refine mm_aload_n rfl rfl ?_
  refine mm_aload_nS rfl rfl ?_
  refine mm_iload_n rfl rfl ?_
  refine mm_iconst (v := nI 1) rfl (by decide) ?_
  refine mm_iaddN rfl ?_
  refine mm_sld (fun s h => ⟨h.1, h.2.1⟩) (vp_in_nI (n := i + 1) (by omega) (by omega)) rfl ?_
  refine mm_mV1 (M2 := qE_press) wd_437 qE_press_k (by decide) (ed_BB.of2 (p2_press hS.1 hS.2.1 hS.2.2 (by omega))) rfl (by decide) (Nat.le_of_ble_eq_true rfl) (by decide) (by decide) rfl (fun r n1 J1 G1 hP => ?_)
  obtain ⟨rfl, x1, rfl, hP2⟩ := hP
  refine ⟨Nat.le_refl _, ?_⟩
  refine mm_aload_n rfl rfl ?_
  refine mm_aload_nS rfl rfl ?_
  refine mm_iload_n rfl rfl ?_
  refine mm_iconst (v := nI 1) rfl (by decide) ?_
  refine mm_iaddN rfl ?_
  refine mm_sld (fun s h => ⟨h.1, h.2.1⟩) (vp_in_nI (n := i + 1) (by omega) (by omega)) rfl ?_
  refine mm_mV1 (M2 := qR_press) wd_737 qR_press_k (by decide) hP2 rfl (by decide) (Nat.le_of_ble_eq_true rfl) (by decide) (by decide) rfl (fun r n2 J2 G2 hQ => ?_)
  obtain ⟨rfl, rfl, v2, hS2, hm2⟩ := hQ
  refine ⟨Nat.le_refl _, ?_⟩
  refine mm_icmp_eq (tgt := 501) rfl (by decide) (fun h240 => ?_) (fun h240 => ?_)
  · exact kk _ _ _ hS2 hm2
  · exact absurd rfl h240
set_option maxRecDepth 100000 in
set_option maxHeartbeats 800000 in
theorem lw_c5 {E : mm_E} {L i : Nat} {xs : Nat → Int32} {v : ed_V} {J : mm_J} {G : mm_G} (hL : L ≤ 2560) (hi : i + 5 ≤ L) (hS : ed_SS v J G) (hm : v_m v < 2 ^ 28) (kk : ∀ v2 J2 G2, ed_SS v2 J2 G2 → v_m v2 ≤ v_m v + 0 → mm_Go E qW_law 501 [some (.retAddr 0), some (.ref 0), some (.ref 69), some (.int (nI i))] [] 86 J2 G2 86 5770 (lw_F E L xs)) : mm_Go E qW_law 245 [some (.retAddr 0), some (.ref 0), some (.ref 69), some (.int (nI i))] [] 86 J G 86 5770 (lw_F E L xs) := by
  refine mm_aload_n rfl rfl ?_
  refine mm_aload_nS rfl rfl ?_
  refine mm_iload_n rfl rfl ?_
  refine mm_iconst (v := nI 1) rfl (by decide) ?_
  refine mm_iaddN rfl ?_
  refine mm_sld (fun s h => ⟨h.1, h.2.1⟩) (vp_in_nI (n := i + 1) (by omega) (by omega)) rfl ?_
  refine mm_if_eq (tgt := 258) rfl (by decide) (fun h251 => ?_) (fun h251 => ?_)
  · refine mm_iconst (v := nI 0) rfl (by decide) ?_
    refine mm_mV1 (M2 := qE_macro) wd_441 qE_macro_k (by decide) (ed_BB.of2 (p2_macro hS.1 hS.2.1 hS.2.2 (by decide))) rfl (by decide) (Nat.le_of_ble_eq_true rfl) (by decide) (by decide) rfl (fun r n1 J1 G1 hP => ?_)
    obtain ⟨rfl, x1, rfl, hP2⟩ := hP
    refine ⟨Nat.le_refl _, ?_⟩
    refine mm_aload_n rfl rfl ?_
    refine mm_aload_nS rfl rfl ?_
    refine mm_iload_n rfl rfl ?_
    refine mm_iconst (v := nI 1) rfl (by decide) ?_
    refine mm_iaddN rfl ?_
    refine mm_sld (fun s h => ⟨h.1, h.2.1⟩) (vp_in_nI (n := i + 1) (by omega) (by omega)) rfl ?_
    refine mm_if_eq (tgt := 275) rfl (by decide) (fun h268 => ?_) (fun h268 => ?_)
    · refine mm_iconst (v := nI 0) rfl (by decide) ?_
      refine mm_mV1 (M2 := qR_macro) wd_741 qR_macro_k (by decide) hP2 rfl (by decide) (Nat.le_of_ble_eq_true rfl) (by decide) (by decide) rfl (fun r n2 J2 G2 hQ => ?_)
      obtain ⟨rfl, rfl, v2, hS2, hm2⟩ := hQ
      refine ⟨Nat.le_refl _, ?_⟩
      refine mm_icmp_eq (tgt := 501) rfl (by decide) (fun h279 => ?_) (fun h279 => ?_)
      · exact kk _ _ _ hS2 hm2
      · exact absurd rfl h279
    · exact absurd h251 h268
  · refine mm_iconst (v := nI 1) rfl (by decide) ?_
    refine mm_goto (tgt := 259) rfl (by decide) ?_
    refine mm_mV1 (M2 := qE_macro) wd_441 qE_macro_k (by decide) (ed_BB.of2 (p2_macro hS.1 hS.2.1 hS.2.2 (by decide))) rfl (by decide) (Nat.le_of_ble_eq_true rfl) (by decide) (by decide) rfl (fun r n1 J1 G1 hP => ?_)
    obtain ⟨rfl, x1, rfl, hP2⟩ := hP
    refine ⟨Nat.le_refl _, ?_⟩
    refine mm_aload_n rfl rfl ?_
    refine mm_aload_nS rfl rfl ?_
    refine mm_iload_n rfl rfl ?_
    refine mm_iconst (v := nI 1) rfl (by decide) ?_
    refine mm_iaddN rfl ?_
    refine mm_sld (fun s h => ⟨h.1, h.2.1⟩) (vp_in_nI (n := i + 1) (by omega) (by omega)) rfl ?_
    refine mm_if_eq (tgt := 275) rfl (by decide) (fun h268 => ?_) (fun h268 => ?_)
    · exact absurd h268 h251
    · refine mm_iconst (v := nI 1) rfl (by decide) ?_
      refine mm_goto (tgt := 276) rfl (by decide) ?_
      refine mm_mV1 (M2 := qR_macro) wd_741 qR_macro_k (by decide) hP2 rfl (by decide) (Nat.le_of_ble_eq_true rfl) (by decide) (by decide) rfl (fun r n2 J2 G2 hQ => ?_)
      obtain ⟨rfl, rfl, v2, hS2, hm2⟩ := hQ
      refine ⟨Nat.le_refl _, ?_⟩
      refine mm_icmp_eq (tgt := 501) rfl (by decide) (fun h279 => ?_) (fun h279 => ?_)
      · exact kk _ _ _ hS2 hm2
      · exact absurd rfl h279
set_option maxRecDepth 100000 in
set_option maxHeartbeats 800000 in
theorem lw_c6 {E : mm_E} {L i : Nat} {xs : Nat → Int32} {v : ed_V} {J : mm_J} {G : mm_G} (hL : L ≤ 2560) (hi : i + 5 ≤ L) (hS : ed_SS v J G) (hm : v_m v < 2 ^ 28) (kk : ∀ v2 J2 G2, ed_SS v2 J2 G2 → v_m v2 ≤ v_m v + 0 → mm_Go E qW_law 501 [some (.retAddr 0), some (.ref 0), some (.ref 69), some (.int (nI i))] [] 86 J2 G2 86 5770 (lw_F E L xs)) : mm_Go E qW_law 284 [some (.retAddr 0), some (.ref 0), some (.ref 69), some (.int (nI i))] [] 86 J G 86 5770 (lw_F E L xs) := by
  refine mm_aload_n rfl rfl ?_
  refine mm_aload_nS rfl rfl ?_
  refine mm_iload_n rfl rfl ?_
  refine mm_iconst (v := nI 1) rfl (by decide) ?_
  refine mm_iaddN rfl ?_
  refine mm_sld (fun s h => ⟨h.1, h.2.1⟩) (vp_in_nI (n := i + 1) (by omega) (by omega)) rfl ?_
  refine mm_aload_nS rfl rfl ?_
  refine mm_iload_n rfl rfl ?_
  refine mm_iconst (v := nI 2) rfl (by decide) ?_
  refine mm_iaddN rfl ?_
  refine mm_sld (fun s h => ⟨h.1, h.2.1⟩) (vp_in_nI (n := i + 2) (by omega) (by omega)) rfl ?_
  refine mm_if_eq (tgt := 302) rfl (by decide) (fun h295 => ?_) (fun h295 => ?_)
  · refine mm_iconst (v := nI 0) rfl (by decide) ?_
    refine mm_mV2 (M2 := qE_marker) wd_445 qE_marker_k (by decide) (ed_BB.of2 (p2_marker hS.1 hS.2.1 hS.2.2 (by decide))) rfl (by decide) (Nat.le_of_ble_eq_true rfl) (by decide) (by decide) rfl (fun r n1 J1 G1 hP => ?_)
    obtain ⟨rfl, x1, rfl, hP2⟩ := hP
    refine ⟨Nat.le_refl _, ?_⟩
    refine mm_aload_n rfl rfl ?_
    refine mm_aload_nS rfl rfl ?_
    refine mm_iload_n rfl rfl ?_
    refine mm_iconst (v := nI 1) rfl (by decide) ?_
    refine mm_iaddN rfl ?_
    refine mm_sld (fun s h => ⟨h.1, h.2.1⟩) (vp_in_nI (n := i + 1) (by omega) (by omega)) rfl ?_
    refine mm_aload_nS rfl rfl ?_
    refine mm_iload_n rfl rfl ?_
    refine mm_iconst (v := nI 2) rfl (by decide) ?_
    refine mm_iaddN rfl ?_
    refine mm_sld (fun s h => ⟨h.1, h.2.1⟩) (vp_in_nI (n := i + 2) (by omega) (by omega)) rfl ?_
    refine mm_if_eq (tgt := 324) rfl (by decide) (fun h317 => ?_) (fun h317 => ?_)
    · refine mm_iconst (v := nI 0) rfl (by decide) ?_
      refine mm_mV2 (M2 := qR_marker) wd_745 qR_marker_k (by decide) hP2 rfl (by decide) (Nat.le_of_ble_eq_true rfl) (by decide) (by decide) rfl (fun r n2 J2 G2 hQ => ?_)
      obtain ⟨rfl, rfl, v2, hS2, hm2⟩ := hQ
      refine ⟨Nat.le_refl _, ?_⟩
      refine mm_icmp_eq (tgt := 501) rfl (by decide) (fun h328 => ?_) (fun h328 => ?_)
      · exact kk _ _ _ hS2 hm2
      · exact absurd rfl h328
    · exact absurd h295 h317
  · refine mm_iconst (v := nI 1) rfl (by decide) ?_
    refine mm_goto (tgt := 303) rfl (by decide) ?_
    refine mm_mV2 (M2 := qE_marker) wd_445 qE_marker_k (by decide) (ed_BB.of2 (p2_marker hS.1 hS.2.1 hS.2.2 (by decide))) rfl (by decide) (Nat.le_of_ble_eq_true rfl) (by decide) (by decide) rfl (fun r n1 J1 G1 hP => ?_)
    obtain ⟨rfl, x1, rfl, hP2⟩ := hP
    refine ⟨Nat.le_refl _, ?_⟩
    refine mm_aload_n rfl rfl ?_
    refine mm_aload_nS rfl rfl ?_
    refine mm_iload_n rfl rfl ?_
    refine mm_iconst (v := nI 1) rfl (by decide) ?_
    refine mm_iaddN rfl ?_
    refine mm_sld (fun s h => ⟨h.1, h.2.1⟩) (vp_in_nI (n := i + 1) (by omega) (by omega)) rfl ?_
    refine mm_aload_nS rfl rfl ?_
    refine mm_iload_n rfl rfl ?_
    refine mm_iconst (v := nI 2) rfl (by decide) ?_
    refine mm_iaddN rfl ?_
    refine mm_sld (fun s h => ⟨h.1, h.2.1⟩) (vp_in_nI (n := i + 2) (by omega) (by omega)) rfl ?_
    refine mm_if_eq (tgt := 324) rfl (by decide) (fun h317 => ?_) (fun h317 => ?_)
    · exact absurd h317 h295
    · refine mm_iconst (v := nI 1) rfl (by decide) ?_
      refine mm_goto (tgt := 325) rfl (by decide) ?_
      refine mm_mV2 (M2 := qR_marker) wd_745 qR_marker_k (by decide) hP2 rfl (by decide) (Nat.le_of_ble_eq_true rfl) (by decide) (by decide) rfl (fun r n2 J2 G2 hQ => ?_)
      obtain ⟨rfl, rfl, v2, hS2, hm2⟩ := hQ
      refine ⟨Nat.le_refl _, ?_⟩
      refine mm_icmp_eq (tgt := 501) rfl (by decide) (fun h328 => ?_) (fun h328 => ?_)
      · exact kk _ _ _ hS2 hm2
      · exact absurd rfl h328
set_option maxRecDepth 100000 in
set_option maxHeartbeats 800000 in
theorem lw_c7 {E : mm_E} {L i : Nat} {xs : Nat → Int32} {v : ed_V} {J : mm_J} {G : mm_G} (hL : L ≤ 2560) (hi : i + 5 ≤ L) (hS : ed_SS v J G) (hm : v_m v < 2 ^ 28) (kk : ∀ v2 J2 G2, ed_SS v2 J2 G2 → v_m v2 ≤ v_m v + 0 → mm_Go E qW_law 501 [some (.retAddr 0), some (.ref 0), some (.ref 69), some (.int (nI i))] [] 86 J2 G2 86 5770 (lw_F E L xs)) : mm_Go E qW_law 333 [some (.retAddr 0), some (.ref 0), some (.ref 69), some (.int (nI i))] [] 86 J G 86 5770 (lw_F E L xs) := by
  refine mm_aload_n rfl rfl ?_
  refine mm_aload_nS rfl rfl ?_
  refine mm_iload_n rfl rfl ?_
  refine mm_iconst (v := nI 1) rfl (by decide) ?_
  refine mm_iaddN rfl ?_
  refine mm_sld (fun s h => ⟨h.1, h.2.1⟩) (vp_in_nI (n := i + 1) (by omega) (by omega)) rfl ?_
  refine mm_aload_nS rfl rfl ?_
  refine mm_iload_n rfl rfl ?_
  refine mm_iconst (v := nI 2) rfl (by decide) ?_
  refine mm_iaddN rfl ?_
  refine mm_sld (fun s h => ⟨h.1, h.2.1⟩) (vp_in_nI (n := i + 2) (by omega) (by omega)) rfl ?_
  refine mm_mV2 (M2 := qE_frame) wd_449 qE_frame_k (by decide) (ed_BB.of2 (p2_frame hS.1 hS.2.1 hS.2.2)) rfl (by decide) (Nat.le_of_ble_eq_true rfl) (by decide) (by decide) rfl (fun r n1 J1 G1 hP => ?_)
  obtain ⟨rfl, x1, rfl, hP2⟩ := hP
  refine ⟨Nat.le_refl _, ?_⟩
  refine mm_aload_n rfl rfl ?_
  refine mm_aload_nS rfl rfl ?_
  refine mm_iload_n rfl rfl ?_
  refine mm_iconst (v := nI 1) rfl (by decide) ?_
  refine mm_iaddN rfl ?_
  refine mm_sld (fun s h => ⟨h.1, h.2.1⟩) (vp_in_nI (n := i + 1) (by omega) (by omega)) rfl ?_
  refine mm_aload_nS rfl rfl ?_
  refine mm_iload_n rfl rfl ?_
  refine mm_iconst (v := nI 2) rfl (by decide) ?_
  refine mm_iaddN rfl ?_
  refine mm_sld (fun s h => ⟨h.1, h.2.1⟩) (vp_in_nI (n := i + 2) (by omega) (by omega)) rfl ?_
  refine mm_mV2 (M2 := qR_frame) wd_749 qR_frame_k (by decide) hP2 rfl (by decide) (Nat.le_of_ble_eq_true rfl) (by decide) (by decide) rfl (fun r n2 J2 G2 hQ => ?_)
  obtain ⟨rfl, rfl, v2, hS2, hm2⟩ := hQ
  refine ⟨Nat.le_refl _, ?_⟩
  refine mm_icmp_eq (tgt := 501) rfl (by decide) (fun h361 => ?_) (fun h361 => ?_)
  · exact kk _ _ _ hS2 hm2
  · exact absurd rfl h361
set_option maxRecDepth 100000 in
set_option maxHeartbeats 800000 in
theorem lw_c8 {E : mm_E} {L i : Nat} {xs : Nat → Int32} {v : ed_V} {J : mm_J} {G : mm_G} (hL : L ≤ 2560) (hi : i + 5 ≤ L) (hS : ed_SS v J G) (hm : v_m v < 2 ^ 28) (kk : ∀ v2 J2 G2, ed_SS v2 J2 G2 → v_m v2 ≤ v_m v + 0 → mm_Go E qW_law 501 [some (.retAddr 0), some (.ref 0), some (.ref 69), some (.int (nI i))] [] 86 J2 G2 86 5770 (lw_F E L xs)) : mm_Go E qW_law 366 [some (.retAddr 0), some (.ref 0), some (.ref 69), some (.int (nI i))] [] 86 J G 86 5770 (lw_F E L xs) := by
  refine mm_aload_n rfl rfl ?_
  refine mm_aload_nS rfl rfl ?_
  refine mm_iload_n rfl rfl ?_
  refine mm_iconst (v := nI 1) rfl (by decide) ?_
  refine mm_iaddN rfl ?_
  refine mm_sld (fun s h => ⟨h.1, h.2.1⟩) (vp_in_nI (n := i + 1) (by omega) (by omega)) rfl ?_
  refine mm_mV1 (M2 := qE_character) wd_457 qE_character_k (by decide) (ed_BB.of2 (p2_character hS.1 hS.2.1 hS.2.2)) rfl (by decide) (Nat.le_of_ble_eq_true rfl) (by decide) (by decide) rfl (fun r n1 J1 G1 hP => ?_)
  obtain ⟨rfl, x1, rfl, hP2⟩ := hP
  refine ⟨Nat.le_refl _, ?_⟩
  refine mm_aload_n rfl rfl ?_
  refine mm_aload_nS rfl rfl ?_
  refine mm_iload_n rfl rfl ?_
  refine mm_iconst (v := nI 1) rfl (by decide) ?_
  refine mm_iaddN rfl ?_
  refine mm_sld (fun s h => ⟨h.1, h.2.1⟩) (vp_in_nI (n := i + 1) (by omega) (by omega)) rfl ?_
  refine mm_mV1 (M2 := qR_character) wd_769 qR_character_k (by decide) hP2 rfl (by decide) (Nat.le_of_ble_eq_true rfl) (by decide) (by decide) rfl (fun r n2 J2 G2 hQ => ?_)
  obtain ⟨rfl, rfl, v2, hS2, hm2⟩ := hQ
  refine ⟨Nat.le_refl _, ?_⟩
  refine mm_icmp_eq (tgt := 501) rfl (by decide) (fun h384 => ?_) (fun h384 => ?_)
  · exact kk _ _ _ hS2 hm2
  · exact absurd rfl h384
set_option maxRecDepth 100000 in
set_option maxHeartbeats 800000 in
theorem lw_c9 {E : mm_E} {L i : Nat} {xs : Nat → Int32} {v : ed_V} {J : mm_J} {G : mm_G} (hL : L ≤ 2560) (hi : i + 5 ≤ L) (hS : ed_SS v J G) (hm : v_m v < 2 ^ 28) (kk : ∀ v2 J2 G2, ed_SS v2 J2 G2 → v_m v2 ≤ v_m v + 0 → mm_Go E qW_law 501 [some (.retAddr 0), some (.ref 0), some (.ref 69), some (.int (nI i))] [] 86 J2 G2 86 5770 (lw_F E L xs)) : mm_Go E qW_law 389 [some (.retAddr 0), some (.ref 0), some (.ref 69), some (.int (nI i))] [] 86 J G 86 5770 (lw_F E L xs) := by
  refine mm_aload_n rfl rfl ?_
  refine mm_aload_nS rfl rfl ?_
  refine mm_iload_n rfl rfl ?_
  refine mm_iconst (v := nI 1) rfl (by decide) ?_
  refine mm_iaddN rfl ?_
  refine mm_sld (fun s h => ⟨h.1, h.2.1⟩) (vp_in_nI (n := i + 1) (by omega) (by omega)) rfl ?_
  refine mm_mV1 (M2 := qE_markerAt) wd_461 qE_markerAt_k (by decide) (ed_BB.of2 (p2_markerAt hS.1 hS.2.1 hS.2.2)) rfl (by decide) (Nat.le_of_ble_eq_true rfl) (by decide) (by decide) rfl (fun r n1 J1 G1 hP => ?_)
  obtain ⟨rfl, x1, rfl, hP2⟩ := hP
  refine ⟨Nat.le_refl _, ?_⟩
  refine mm_aload_n rfl rfl ?_
  refine mm_aload_nS rfl rfl ?_
  refine mm_iload_n rfl rfl ?_
  refine mm_iconst (v := nI 1) rfl (by decide) ?_
  refine mm_iaddN rfl ?_
  refine mm_sld (fun s h => ⟨h.1, h.2.1⟩) (vp_in_nI (n := i + 1) (by omega) (by omega)) rfl ?_
  refine mm_mV1 (M2 := qR_markerAt) wd_773 qR_markerAt_k (by decide) hP2 rfl (by decide) (Nat.le_of_ble_eq_true rfl) (by decide) (by decide) rfl (fun r n2 J2 G2 hQ => ?_)
  obtain ⟨rfl, rfl, v2, hS2, hm2⟩ := hQ
  refine ⟨Nat.le_refl _, ?_⟩
  refine mm_icmp_eq (tgt := 501) rfl (by decide) (fun h407 => ?_) (fun h407 => ?_)
  · exact kk _ _ _ hS2 hm2
  · exact absurd rfl h407
set_option maxRecDepth 100000 in
set_option maxHeartbeats 800000 in
theorem lw_c10 {E : mm_E} {L i : Nat} {xs : Nat → Int32} {v : ed_V} {J : mm_J} {G : mm_G} (hL : L ≤ 2560) (hi : i + 5 ≤ L) (hS : ed_SS v J G) (hm : v_m v < 2 ^ 28) (kk : ∀ v2 J2 G2, ed_SS v2 J2 G2 → v_m v2 ≤ v_m v + 0 → mm_Go E qW_law 501 [some (.retAddr 0), some (.ref 0), some (.ref 69), some (.int (nI i))] [] 86 J2 G2 86 5770 (lw_F E L xs)) : mm_Go E qW_law 412 [some (.retAddr 0), some (.ref 0), some (.ref 69), some (.int (nI i))] [] 86 J G 86 5770 (lw_F E L xs) := by
  refine mm_aload_n rfl rfl ?_
  refine mm_aload_nS rfl rfl ?_
  refine mm_iload_n rfl rfl ?_
  refine mm_iconst (v := nI 1) rfl (by decide) ?_
  refine mm_iaddN rfl ?_
  refine mm_sld (fun s h => ⟨h.1, h.2.1⟩) (vp_in_nI (n := i + 1) (by omega) (by omega)) rfl ?_
  refine mm_aload_nS rfl rfl ?_
  refine mm_iload_n rfl rfl ?_
  refine mm_iconst (v := nI 2) rfl (by decide) ?_
  refine mm_iaddN rfl ?_
  refine mm_sld (fun s h => ⟨h.1, h.2.1⟩) (vp_in_nI (n := i + 2) (by omega) (by omega)) rfl ?_
  refine mm_mV2 (M2 := qE_killed) wd_465 qE_killed_k (by decide) (ed_BB.of2 (p2_killed hS.1 hS.2.1 hS.2.2)) rfl (by decide) (Nat.le_of_ble_eq_true rfl) (by decide) (by decide) rfl (fun r n1 J1 G1 hP => ?_)
  obtain ⟨rfl, x1, rfl, hP2⟩ := hP
  refine ⟨Nat.le_refl _, ?_⟩
  refine mm_aload_n rfl rfl ?_
  refine mm_aload_nS rfl rfl ?_
  refine mm_iload_n rfl rfl ?_
  refine mm_iconst (v := nI 1) rfl (by decide) ?_
  refine mm_iaddN rfl ?_
  refine mm_sld (fun s h => ⟨h.1, h.2.1⟩) (vp_in_nI (n := i + 1) (by omega) (by omega)) rfl ?_
  refine mm_aload_nS rfl rfl ?_
  refine mm_iload_n rfl rfl ?_
  refine mm_iconst (v := nI 2) rfl (by decide) ?_
  refine mm_iaddN rfl ?_
  refine mm_sld (fun s h => ⟨h.1, h.2.1⟩) (vp_in_nI (n := i + 2) (by omega) (by omega)) rfl ?_
  refine mm_mV2 (M2 := qR_killed) wd_777 qR_killed_k (by decide) hP2 rfl (by decide) (Nat.le_of_ble_eq_true rfl) (by decide) (by decide) rfl (fun r n2 J2 G2 hQ => ?_)
  obtain ⟨rfl, rfl, v2, hS2, hm2⟩ := hQ
  refine ⟨Nat.le_refl _, ?_⟩
  refine mm_icmp_eq (tgt := 501) rfl (by decide) (fun h440 => ?_) (fun h440 => ?_)
  · exact kk _ _ _ hS2 hm2
  · exact absurd rfl h440
set_option maxRecDepth 100000 in
set_option maxHeartbeats 800000 in
theorem lw_c11 {E : mm_E} {L i : Nat} {xs : Nat → Int32} {v : ed_V} {J : mm_J} {G : mm_G} (hL : L ≤ 2560) (hi : i + 5 ≤ L) (hS : ed_SS v J G) (hm : v_m v < 2 ^ 28) (kk : ∀ v2 J2 G2, ed_SS v2 J2 G2 → v_m v2 ≤ v_m v + 0 → mm_Go E qW_law 501 [some (.retAddr 0), some (.ref 0), some (.ref 69), some (.int (nI i))] [] 86 J2 G2 86 5770 (lw_F E L xs)) : mm_Go E qW_law 445 [some (.retAddr 0), some (.ref 0), some (.ref 69), some (.int (nI i))] [] 86 J G 86 5770 (lw_F E L xs) := by
  refine mm_aload_n rfl rfl ?_
  refine mm_aload_nS rfl rfl ?_
  refine mm_iload_n rfl rfl ?_
  refine mm_iconst (v := nI 1) rfl (by decide) ?_
  refine mm_iaddN rfl ?_
  refine mm_sld (fun s h => ⟨h.1, h.2.1⟩) (vp_in_nI (n := i + 1) (by omega) (by omega)) rfl ?_
  refine mm_aload_nS rfl rfl ?_
  refine mm_iload_n rfl rfl ?_
  refine mm_iconst (v := nI 2) rfl (by decide) ?_
  refine mm_iaddN rfl ?_
  refine mm_sld (fun s h => ⟨h.1, h.2.1⟩) (vp_in_nI (n := i + 2) (by omega) (by omega)) rfl ?_
  refine mm_mV2 (M2 := qE_cell) wd_469 qE_cell_k (by decide) (ed_BB.of2 (p2_cell hS.1 hS.2.1 hS.2.2)) rfl (by decide) (Nat.le_of_ble_eq_true rfl) (by decide) (by decide) rfl (fun r n1 J1 G1 hP => ?_)
  obtain ⟨rfl, x1, rfl, hP2⟩ := hP
  refine ⟨Nat.le_refl _, ?_⟩
  refine mm_aload_n rfl rfl ?_
  refine mm_aload_nS rfl rfl ?_
  refine mm_iload_n rfl rfl ?_
  refine mm_iconst (v := nI 1) rfl (by decide) ?_
  refine mm_iaddN rfl ?_
  refine mm_sld (fun s h => ⟨h.1, h.2.1⟩) (vp_in_nI (n := i + 1) (by omega) (by omega)) rfl ?_
  refine mm_aload_nS rfl rfl ?_
  refine mm_iload_n rfl rfl ?_
  refine mm_iconst (v := nI 2) rfl (by decide) ?_
  refine mm_iaddN rfl ?_
  refine mm_sld (fun s h => ⟨h.1, h.2.1⟩) (vp_in_nI (n := i + 2) (by omega) (by omega)) rfl ?_
  refine mm_mV2 (M2 := qR_cell) wd_753 qR_cell_k (by decide) hP2 rfl (by decide) (Nat.le_of_ble_eq_true rfl) (by decide) (by decide) rfl (fun r n2 J2 G2 hQ => ?_)
  obtain ⟨rfl, rfl, v2, hS2, hm2⟩ := hQ
  refine ⟨Nat.le_refl _, ?_⟩
  refine mm_icmp_eq (tgt := 501) rfl (by decide) (fun h473 => ?_) (fun h473 => ?_)
  · exact kk _ _ _ hS2 hm2
  · exact absurd rfl h473
set_option maxRecDepth 100000 in
set_option maxHeartbeats 800000 in
theorem lw_c12 {E : mm_E} {L i : Nat} {xs : Nat → Int32} {v : ed_V} {J : mm_J} {G : mm_G} (hL : L ≤ 2560) (hi : i + 5 ≤ L) (hS : ed_SS v J G) (hm : v_m v < 2 ^ 28) (kk : ∀ v2 J2 G2, ed_SS v2 J2 G2 → v_m v2 ≤ v_m v + 0 → mm_Go E qW_law 501 [some (.retAddr 0), some (.ref 0), some (.ref 69), some (.int (nI i))] [] 86 J2 G2 86 5770 (lw_F E L xs)) : mm_Go E qW_law 478 [some (.retAddr 0), some (.ref 0), some (.ref 69), some (.int (nI i))] [] 86 J G 86 5770 (lw_F E L xs) := by
  refine mm_aload_n rfl rfl ?_
  refine mm_aload_nS rfl rfl ?_
  refine mm_iload_n rfl rfl ?_
  refine mm_iconst (v := nI 1) rfl (by decide) ?_
  refine mm_iaddN rfl ?_
  refine mm_sld (fun s h => ⟨h.1, h.2.1⟩) (vp_in_nI (n := i + 1) (by omega) (by omega)) rfl ?_
  refine mm_mV1 (M2 := qE_info) wd_487 qE_info_k (by decide) (ed_BB.of2 (p2_info hS.1 hS.2.1 hS.2.2)) rfl (by decide) (Nat.le_of_ble_eq_true rfl) (by decide) (by decide) rfl (fun r n1 J1 G1 hP => ?_)
  obtain ⟨rfl, x1, rfl, hP2⟩ := hP
  refine ⟨Nat.le_refl _, ?_⟩
  refine mm_aload_n rfl rfl ?_
  refine mm_aload_nS rfl rfl ?_
  refine mm_iload_n rfl rfl ?_
  refine mm_iconst (v := nI 1) rfl (by decide) ?_
  refine mm_iaddN rfl ?_
  refine mm_sld (fun s h => ⟨h.1, h.2.1⟩) (vp_in_nI (n := i + 1) (by omega) (by omega)) rfl ?_
  refine mm_mV1 (M2 := qR_info) wd_781 qR_info_k (by decide) hP2 rfl (by decide) (Nat.le_of_ble_eq_true rfl) (by decide) (by decide) rfl (fun r n2 J2 G2 hQ => ?_)
  obtain ⟨rfl, rfl, v2, hS2, hm2⟩ := hQ
  refine ⟨Nat.le_refl _, ?_⟩
  refine mm_icmp_eq (tgt := 501) rfl (by decide) (fun h496 => ?_) (fun h496 => ?_)
  · exact kk _ _ _ hS2 hm2
  · exact absurd rfl h496
set_option maxRecDepth 100000 in
set_option maxHeartbeats 800000 in
theorem lw_loop {E : mm_E} {L : Nat} {xs : Nat → Int32} (hL : L ≤ 2560) : ∀ (n : Nat) {i : Nat} {v : ed_V} {J : mm_J} {G : mm_G}, ed_SS v J G → L < i + 5 * n + 5 → i ≤ 2565 → v_m v + 117 * n < 2 ^ 28 → mm_Go E qW_law 18 [some (.retAddr 0), some (.ref 0), some (.ref 69), some (.int (nI i))] [] 86 J G 86 5770 (lw_F E L xs)
  | 0, i, v, J, G, hS, hn, hi, hm => by
    refine mm_iload_n rfl rfl ?_
    refine mm_aload_nS rfl rfl ?_
    refine mm_slen (fun s h => ⟨h.1, h.2.1⟩) rfl ?_
    refine mm_iconst (v := nI 5) rfl (by decide) ?_
    refine mm_isub rfl ?_
    refine mm_icmp_gt (tgt := 507) rfl (by decide) (fun h23 => ?_) (fun h23 => ?_)
    · refine mm_iconst (v := nI 1) rfl (by decide) ?_
      exact lw_end rfl (by decide) (by decide)
    · exact absurd (lw_cmp0 hL (by omega) (by omega)) h23
  | n + 1, i, v, J, G, hS, hn, hi, hm => by
    refine mm_iload_n rfl rfl ?_
    refine mm_aload_nS rfl rfl ?_
    refine mm_slen (fun s h => ⟨h.1, h.2.1⟩) rfl ?_
    refine mm_iconst (v := nI 5) rfl (by decide) ?_
    refine mm_isub rfl ?_
    refine mm_icmp_gt (tgt := 507) rfl (by decide) (fun h23 => ?_) (fun h23 => ?_)
    · refine mm_iconst (v := nI 1) rfl (by decide) ?_
      exact lw_end rfl (by decide) (by decide)
    · have hi5 : i + 5 ≤ L := lw_cmp hL (by omega) h23
      refine mm_aload_nS rfl rfl ?_
      refine mm_iload_n rfl rfl ?_
      refine mm_sld (fun s h => ⟨h.1, h.2.1⟩) (vp_in_nI (n := i) (by omega) (by omega)) rfl ?_
      refine mm_bipush (v := nI 15) rfl (by decide) ?_
      refine mm_iand rfl ?_
      obtain ⟨k9, hk9, hand⟩ := lw_and (xs (nI i).toNatClampNeg)
      rw [hand]
      have kk : ∀ v2 J2 G2, ed_SS v2 J2 G2 → v_m v2 ≤ v_m v + 117 → mm_Go E qW_law 501 [some (.retAddr 0), some (.ref 0), some (.ref 69), some (.int (nI i))] [] 86 J2 G2 86 5770 (lw_F E L xs) := fun v2 J2 G2 hS2 hm2 => by
        refine mm_iinc (v := nI (i + 5)) rfl rfl (show nI i + Int32.ofInt 5 = nI (i + 5) from nI_add i 5) (by decide) ?_
        refine mm_goto (tgt := 18) rfl (by decide) ?_
        exact lw_loop hL n hS2 (by omega) (by omega) (by omega)
      obtain rfl | rfl | rfl | rfl | rfl | rfl | rfl | rfl | rfl | rfl | rfl | rfl | rfl | rfl | rfl | rfl : k9 = 0 ∨ k9 = 1 ∨ k9 = 2 ∨ k9 = 3 ∨ k9 = 4 ∨ k9 = 5 ∨ k9 = 6 ∨ k9 = 7 ∨ k9 = 8 ∨ k9 = 9 ∨ k9 = 10 ∨ k9 = 11 ∨ k9 = 12 ∨ k9 = 13 ∨ k9 = 14 ∨ k9 = 15 := by omega
      · refine mm_tableIn (off := 68) (tgt := 100) rfl (by decide) (by decide) rfl (by decide) ?_
        exact lw_c0 hL hi5 hS (by omega) (fun v2 J2 G2 q1 q2 => kk v2 J2 G2 q1 (by omega))
      · refine mm_tableIn (off := 91) (tgt := 123) rfl (by decide) (by decide) rfl (by decide) ?_
        exact lw_c1 hL hi5 hS (by omega) (fun v2 J2 G2 q1 q2 => kk v2 J2 G2 q1 (by omega))
      · refine mm_tableIn (off := 114) (tgt := 146) rfl (by decide) (by decide) rfl (by decide) ?_
        exact lw_c2 hL hi5 hS (by omega) (fun v2 J2 G2 q1 q2 => kk v2 J2 G2 q1 (by omega))
      · refine mm_tableIn (off := 137) (tgt := 169) rfl (by decide) (by decide) rfl (by decide) ?_
        exact lw_c3 hL hi5 hS (by omega) (fun v2 J2 G2 q1 q2 => kk v2 J2 G2 q1 (by omega))
      · refine mm_tableIn (off := 190) (tgt := 222) rfl (by decide) (by decide) rfl (by decide) ?_
        exact lw_c4 hL hi5 hS (by omega) (fun v2 J2 G2 q1 q2 => kk v2 J2 G2 q1 (by omega))
      · refine mm_tableIn (off := 213) (tgt := 245) rfl (by decide) (by decide) rfl (by decide) ?_
        exact lw_c5 hL hi5 hS (by omega) (fun v2 J2 G2 q1 q2 => kk v2 J2 G2 q1 (by omega))
      · refine mm_tableIn (off := 252) (tgt := 284) rfl (by decide) (by decide) rfl (by decide) ?_
        exact lw_c6 hL hi5 hS (by omega) (fun v2 J2 G2 q1 q2 => kk v2 J2 G2 q1 (by omega))
      · refine mm_tableIn (off := 301) (tgt := 333) rfl (by decide) (by decide) rfl (by decide) ?_
        exact lw_c7 hL hi5 hS (by omega) (fun v2 J2 G2 q1 q2 => kk v2 J2 G2 q1 (by omega))
      · refine mm_tableIn (off := 334) (tgt := 366) rfl (by decide) (by decide) rfl (by decide) ?_
        exact lw_c8 hL hi5 hS (by omega) (fun v2 J2 G2 q1 q2 => kk v2 J2 G2 q1 (by omega))
      · refine mm_tableIn (off := 357) (tgt := 389) rfl (by decide) (by decide) rfl (by decide) ?_
        exact lw_c9 hL hi5 hS (by omega) (fun v2 J2 G2 q1 q2 => kk v2 J2 G2 q1 (by omega))
      · refine mm_tableIn (off := 380) (tgt := 412) rfl (by decide) (by decide) rfl (by decide) ?_
        exact lw_c10 hL hi5 hS (by omega) (fun v2 J2 G2 q1 q2 => kk v2 J2 G2 q1 (by omega))
      · refine mm_tableIn (off := 413) (tgt := 445) rfl (by decide) (by decide) rfl (by decide) ?_
        exact lw_c11 hL hi5 hS (by omega) (fun v2 J2 G2 q1 q2 => kk v2 J2 G2 q1 (by omega))
      · refine mm_tableIn (off := 446) (tgt := 478) rfl (by decide) (by decide) rfl (by decide) ?_
        exact lw_c12 hL hi5 hS (by omega) (fun v2 J2 G2 q1 q2 => kk v2 J2 G2 q1 (by omega))
      · refine mm_tableOut (tgt := 501) rfl (by decide) (by decide) ?_
        exact kk v J G hS (by omega)
      · refine mm_tableOut (tgt := 501) rfl (by decide) (by decide) ?_
        exact kk v J G hS (by omega)
      · refine mm_tableOut (tgt := 501) rfl (by decide) (by decide) ?_
        exact kk v J G hS (by omega)
set_option maxRecDepth 100000 in
set_option maxHeartbeats 800000 in
theorem lw_all {E : mm_E} {L : Nat} {xs : Nat → Int32} {J : mm_J} {G : mm_G} (hL : L ≤ 2560) : mm_Go E qW_law 0 [some (.retAddr 0), none, none, none] [] 0 J G 0 0 (lw_F E L xs) := by
  refine mm_new rfl rfl rfl wd_12 wd_13 wd_1 (by decide) (by decide) ?_
  refine mm_dup rfl rfl ?_
  refine mm_isI0 (M2 := qE_init) wd_14 qE_init_k (by decide) sE_init (Nat.le_of_ble_eq_true rfl) (by decide) (by decide) rfl (by decide) ?_
  refine mm_astore_n rfl (by decide) ?_
  refine mm_new rfl rfl rfl wd_496 wd_497 wd_9 (by decide) (by decide) ?_
  refine mm_dup rfl rfl ?_
  refine mm_isI0 (M2 := qR_init) wd_498 qR_init_k (by decide) sR_init (Nat.le_of_ble_eq_true rfl) (by decide) (by decide) rfl (by decide) ?_
  refine mm_astore_n rfl (by decide) ?_
  refine mm_iconst (v := nI 0) rfl (by decide) ?_
  refine mm_istore_n rfl (by decide) ?_
  refine (lw_loop (E := E) (xs := xs) hL 512 (i := 0) (v := ed_v0) (J := ed_J0 J) (G := ed_G0 G) (ed_first (fun h => ed_J0_at J h) (ed_G0_GI G) (fun h => ed_G0_7 G h)) (by omega) (by omega) (by decide)).cast rfl rfl rfl rfl rfl
set_option maxRecDepth 100000 in
set_option maxHeartbeats 800000 in
theorem whole_start {p : Program} {e : Env} {s : State} {m : MethodId} {below : List Frame} {meth : Method} {c : Code} (l : Launch) {b L : Nat} {xs : Nat → Int32} (hL : L ≤ 2560) (C0 : lw_At p s m meth c b L xs) : W p l e room_1 s m #[Value.ref b] below meth c s.heap [] 0 0 (lw_Z below #[Value.ref b] s) (entryFrame m ([Value.ref b] : List Value).toArray 4) := by
  obtain ⟨hx, hb, hr, hml, hown, hts, hX, hbl, hlocks, hgv⟩ := id C0
  have hts2 : ∀ w ∈ lw_t2, w.before #[Value.ref b] s = true := fun w hw => hts w (List.mem_filter.mp hw).1
  obtain ⟨c0, i0, k0⟩ := u_known hts2 (mm_clOK 0 _ _ _ rfl).2.2.2 (hts2 _ wd_13)
  obtain ⟨c1, i1, k1⟩ := u_known hts2 (mm_clOK 1 _ _ _ rfl).2.2.2 (hts2 _ wd_21)
  obtain ⟨c2, i2, k2⟩ := u_known hts2 (mm_clOK 2 _ _ _ rfl).2.2.2 (hts2 _ wd_27)
  obtain ⟨c3, i3, k3⟩ := u_known hts2 (mm_clOK 3 _ _ _ rfl).2.2.2 (hts2 _ wd_68)
  obtain ⟨c4, i4, k4⟩ := u_known hts2 (mm_clOK 4 _ _ _ rfl).2.2.2 (hts2 _ wd_86)
  obtain ⟨c5, i5, k5⟩ := u_known hts2 (mm_clOK 5 _ _ _ rfl).2.2.2 (hts2 _ wd_111)
  obtain ⟨c6, i6, k6⟩ := u_known hts2 (mm_clOK 6 _ _ _ rfl).2.2.2 (hts2 _ wd_131)
  obtain ⟨c7, i7, k7⟩ := u_known hts2 (mm_clOK 7 _ _ _ rfl).2.2.2 (hts2 _ wd_154)
  obtain ⟨c8, i8, k8⟩ := u_known hts2 (mm_clOK 8 _ _ _ rfl).2.2.2 (hts2 _ wd_497)
  obtain ⟨a0, q0, m0, f0, g0, h0⟩ := Cond.arrayClass_spec (hts2 _ wd_46)
  obtain ⟨a1, q1, m1, f1, g1, h1⟩ := Cond.arrayClass_spec (hts2 _ wd_66)
  have hAO : (Cond.arrayOver (.object "EditorCore$Letters")).before #[Value.ref b] s = true := hts _ (List.mem_of_getElem? (i := 125) (by decide +kernel))
  have hNw : (Cond.methodLinkNest "EditorCore$Text" 50 ⟨"EditorCore", "isLetter", "(I)Z"⟩ "EditorCore").before #[Value.ref b] s = true := hts _ (List.mem_of_getElem? (i := 385) (by decide +kernel))
  obtain ⟨m2, a2, q2, h21, h22, h23, h24, h25⟩ := Cond.arrayOver_spec hAO
  let E : mm_E := (l, (fun k => if k = 0 then c0 else if k = 1 then c1 else if k = 2 then c2 else if k = 3 then c3 else if k = 4 then c4 else if k = 5 then c5 else if k = 6 then c6 else if k = 7 then c7 else c8), (fun k => if k = 0 then i0 else if k = 1 then i1 else if k = 2 then i2 else if k = 3 then i3 else if k = 4 then i4 else if k = 5 then i5 else if k = 6 then i6 else if k = 7 then i7 else i8), (fun k => if k = 0 then a0 else if k = 1 then a1 else a2), s.heap.size, b)
  have hK : mm_K E s := by
    refine ⟨⟨?_, ?_⟩, va_AO.of hAO, va_Nw.of rfl hNw⟩
    · intro k q hq
      match k, hq with
      | 0, hq => cases hq; exact k0
      | 1, hq => cases hq; exact k1
      | 2, hq => cases hq; exact k2
      | 3, hq => cases hq; exact k3
      | 4, hq => cases hq; exact k4
      | 5, hq => cases hq; exact k5
      | 6, hq => cases hq; exact k6
      | 7, hq => cases hq; exact k7
      | 8, hq => cases hq; exact k8
      | k + 9, hq => exact absurd hq (by simp [mm_cl])
    · intro k q hq
      match k, hq with
      | 0, hq => cases hq; exact ⟨fun n z => ⟨fun k h => (by cases h), q0, g0, m0, h0⟩, f0⟩
      | 1, hq => cases hq; exact ⟨fun n z => ⟨fun k h => (by cases h), q1, g1, m1, h1⟩, f1⟩
      | 2, hq => cases hq; exact ⟨fun n z => ⟨fun k h => (by cases h), q2, h23, m2, h24⟩, q2, m2, h23, h24, h21, h25⟩
      | k + 3, hq => exact absurd hq (by simp [mm_tys, mm_ty])
  rw [lg_entry_eq]
  exact lw_all (E := E) (J := fun _ _ => 0) (G := fun _ _ => none) (xs := xs) hL p e s m #[Value.ref b] below meth c s.heap [] _ ⟨hx, hb, hr, hml, hown, hlocks, hts2, fun h => absurd h (by decide), hK, Nat.le_refl _, qW_law_ok⟩ ⟨hX, hbl, rfl⟩ (mm_L.entry (E := E) [.retAddr 0] (mm_cats rfl) (by decide)) ⟨rfl, fun i hi => absurd hi (Nat.not_lt_zero i)⟩ va_S.rf
set_option maxHeartbeats 4000000 in
theorem lw_walk (l : Launch) (b : Addr) (xs : List Int32) : MetFree l x (headSpec (Jvm.Cond.code x code maxLocals ret :: tables_1) room_1) (lw_P b xs) (fun _ _ _ _ _ => True) lw_Q := by
  refine MetFree.of_bodyS (code := code) (maxLocals := maxLocals) (ret := ret) (by decide) ?_ ?_
  · intro args s m h hn
    obtain ⟨meth, c, h1, h2, h3, h4, h5, h6, -, -⟩ := Cond.code_spec hn (atoms_spec (ws := Jvm.Cond.code x code maxLocals ret :: tables_1) h _ List.mem_cons_self)
    exact ⟨meth, c, h1, h2, h3, h4, h5, h6⟩
  · intro p e s m args below meth c s₁ B hml0 hP _
    obtain ⟨rfl, hx, hbd, hgv⟩ := hP
    obtain ⟨scr, harrAt, hlist, hof, hsmall⟩ := hx
    obtain ⟨hcb, hkn, -, -⟩ := State.arrayAt?_spec harrAt
    have hown : s.vm.findClass R_law = some m.cls := findClass_of_methodNamed B.named
    have hts0 : ∀ c ∈ (Jvm.Cond.code x code maxLocals ret :: tables_1), c.before #[Value.ref b] s = true := atoms_spec (ws := Jvm.Cond.code x code maxLocals ret :: tables_1) B.pre
    have hts : ∀ w ∈ lw_tbl, w.before #[Value.ref b] s = true := k2_hts_sels lw_privs (fun w hw => hts0 w (List.mem_cons_of_mem _ hw)) lw_privs_ok
    have hml : c.maxLocals = 4 := B.maxLocals_eq (hts0 _ List.mem_cons_self)
    have X₀ : Stand p l e room_1 s m #[Value.ref b] below meth c s₁ [] 0 0 := Stand.of_body B
    have hh0 : s₁.heap = s.heap := by rw [B.state]; rfl
    have hsz : scr.slots.size = xs.length := by rw [← Array.length_toList, hlist, List.length_map]
    have hval : ∀ j : Nat, j < xs.length → scr.slots[j]? = some (.int (xs.getD j 0)) := fun j hj => by
      rw [← Array.getElem?_toList, hlist]
      simp [hj]
    have hbl : b < s.heap.size := (Array.getElem?_eq_some_iff.mp hcb).1
    have hX : va_X b xs.length (fun j => xs.getD j 0) s s.heap := ⟨scr, hcb, hof, hkn, hsz, hval⟩
    have K : W p l e room_1 s m #[Value.ref b] below meth c s₁.heap [] 0 0 (lw_Z below #[Value.ref b] s) (entryFrame m ([Value.ref b] : List Value).toArray 4) := by
      rw [hh0]
      exact whole_start l hbd ⟨B.exec, B.bytes, B.returns, hml, hown, hts, hX, hbl, B.notSynchronized, hgv⟩
    obtain ⟨t, a1, o, b1, b2, b3⟩ := K s₁ rfl X₀
    exact ⟨t, o, a1, b1, b2, b3⟩
theorem lw_pre_spec {args : Array Value} {s : State} (h : (Jvm.Cond.and given_1 narrow_1).before args s = true) (hr : rest_1_c.before args s = true) : ∃ (b : Addr) (xs : List Int32), lw_P b xs args s := by
  have hs := flat_of_before _ h
  have hq := flat_of_before _ hr
  have hc : (Cond.count 1).before args s = true := hs _ (by decide +kernel)
  have harr : (Cond.arrayOf (.arg 0) .int).before args s = true := hs _ (by decide +kernel)
  have hle : (Cond.le (.length (.arg 0)) (.int 2560)).before args s = true := hs _ (by decide +kernel)
  have hlen : (Cond.isInt (.length (.arg 0))).before args s = true := hq _ (by decide +kernel)
  have hall : (Cond.all (.arg 0) (.isInt (.elem (.arg 0) (.index 0)))).before args s = true := hq _ (by decide +kernel)
  obtain ⟨b, xs, hb, hx⟩ := State.ints_of_pre rfl harr hlen hall
  have hsm : xs.length < 2 ^ 31 := hx.choose_spec.2.2.2
  have hev : (Term.length (.arg 0)).eval args s none [] s = some (.int xs.length.toInt32) := hx.length_eval hb
  have hv := Cond.le_ints hev (show (Term.int 2560).eval args s none [] s = some (.int 2560) from rfl)
  have hd : xs.length.toInt32 ≤ 2560 := by
    simpa [Cond.before, Cond.holds, hv] using hle
  have hN : xs.length ≤ 2560 := (Int32.ofNat_le_ofNat hsm (by decide)).mp (show Int32.ofNat xs.length ≤ Int32.ofNat 2560 from hd)
  exact ⟨b, xs, Cond.one_arg hc (show args[0]? = some (.ref b) from hb), hx, hN, h⟩
theorem lw_comes (l : Launch) : Comes l x (Jvm.Cond.code x code maxLocals ret :: tables_1) room_1 (fun tb e args s => Calls_1 tb e args s ∧ rest_1 tb e args s ∧ Pre_1 tb e args s)
    (fun _ _ args s o t => lw_Q args s o t) := by
  intro p e ha hc hk s m args below hf hfit hheap happ hpre
  obtain ⟨b, xs, hP⟩ := lw_pre_spec hpre.2.2 hpre.2.1
  obtain ⟨k, o, h1, h2, h3, hQ⟩ := lw_walk l b xs p e ha hc hk s m args below hf ((Spec.applies_iff_loose hf).mp happ).1 hP trivial
  exact ⟨k, o, h1, h2, h3, hQ⟩
theorem lw_frame {s t : State} {o : Outcome} {args : Array Value} (h : Framed s o t [] 600000 7302250) :
    Framed s o t (fieldLocs frame_1_writes args s ++ arrayLocs frame_1_arrays args s ++ staticLocs frame_1_statics s) 600000 7302250 := h
theorem lw_limb (L : Cond) (hL : ∀ (args : Array Value) (s t : State), L.after args s (.returned (some (.int 1))) t = true) :
    ArmFor flags0 classFile x code maxLocals ret World_1 tables_1 room_1 Calls_1 rest_1 Pre_1
      (fun tb e a s o t => postC L tb e a s o t ∧ Framed s o t (fieldLocs frame_1_writes a s ++ arrayLocs frame_1_arrays a s ++ staticLocs frame_1_statics s) 600000 7302250) := by
  intro l _ _ _ p e ha hc hk s m args below hf hfit hheap happ hpre
  obtain ⟨k, o, h1, h2, h3, rfl, hF⟩ := lw_comes l p e ha hc hk s m args below hf hfit hheap happ hpre
  exact ⟨k, _, h1, h2, h3, hL args s _, lw_frame hF⟩
theorem i_vc : Claimed_1_1 ∧ Claimed_1_2 := ⟨lw_limb limb_1_1 (fun args s t => by simp [limb_1_1, Cond.after, Cond.holds, Cond.value]), lw_limb limb_1_2 (fun args s t => Cond.after_iff.mpr (by
  first | (rw [show limb_1_2 = Cond.eq .result (.int 1) from rfl, Cond.eq_ints (x := 1) (y := 1) rfl rfl]; simp; done) | (simp [limb_1_2, Cond.value, Term.eval]; done)))⟩
