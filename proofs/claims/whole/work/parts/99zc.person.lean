/-! the class's 'person': it returns or throws NoSuchElementException -/
abbrev xN : String := "java/util/NoSuchElementException"
abbrev xR : String := "java/lang/RuntimeException"
abbrev xE : String := "java/lang/Exception"
def pr_at : List Cond := (Bundle.ownAtomsX RX11 185 xN 13 prog_30_method_4_code [xR, xE]).filter vx_no
def pr_ps : List (Nat × Nat) := [(1, 21), (6, 61), (6, 70), (6, 72), (6, 75), (6, 77), (6, 62), (6, 63), (1, 32), (1, 33), (6, 64), (6, 69), (6, 73), (6, 93), (6, 51), (6, 94), (6, 53), (6, 95), (6, 55), (6, 65), (6, 67), (6, 57), (6, 89), (6, 90), (6, 92), (6, 57), (6, 80), (6, 81), (6, 82), (6, 83), (6, 83), (6, 84), (6, 85), (6, 86), (6, 86), (6, 87), (6, 88), (6, 89), (6, 79), (6, 40), (6, 48), (6, 49), (6, 50), (6, 52), (6, 54), (6, 56), (6, 60), (6, 59), (6, 58)]
theorem pr_pos : pr_at.filter goodWord = pr_ps.filterMap (fun q => if q.1 = 1 then tables_1_1[q.2]? else tables_1_6[q.2]?) := by decide +kernel
theorem pr_mem : ∀ w ∈ pr_at.filter goodWord, w ∈ gs_W := by
  intro w hw
  have hg := (List.mem_filter.mp hw).2
  rw [pr_pos] at hw
  obtain ⟨q, -, hq⟩ := List.mem_filterMap.mp hw
  by_cases h1 : q.1 = 1
  · rw [if_pos h1] at hq
    exact gs_w1 q.2 hq hg
  · rw [if_neg h1] at hq
    exact gs_w6 q.2 hq hg
def pr_B : List Cond := [.declares (Bundle.initS xR), .declares (Bundle.initS xE), .declares (Bundle.initS Bundle.tN), .castable xN xN]
theorem pr_rest : pr_at.filter (fun w => !goodWord w) = pr_B := by decide +kernel
theorem pr_ot : (Cond.classLink RX11 181 xN :: Cond.initialized xN :: pr_at).all vx_ot = true := by decide +kernel
def pr_D (U : State) : Prop := va_Nw (.declares (Bundle.initS xR)) U ∧ va_Nw (.declares (Bundle.initS xE)) U ∧ va_Nw (.declares (Bundle.initS Bundle.tN)) U ∧ va_Nw (.castable xN xN) U
theorem pr_D.warm {s U : State} (hW : s.WarmedH U.vm) (h : pr_D s) : pr_D U := ⟨va_Nw.warmD hW h.1, va_Nw.warmD hW h.2.1, va_Nw.warmD hW h.2.2.1, va_Nw.warmC hW h.2.2.2⟩
theorem pr_D.same {s U : State} (hv : s.vm = U.vm) (h : pr_D s) : pr_D U := ⟨va_Nw.same rfl hv h.1, va_Nw.same rfl hv h.2.1, va_Nw.same rfl hv h.2.2.1, va_Nw.same rfl hv h.2.2.2⟩
theorem pr_hat {args : Array Value} {s : State} (hts : ∀ w ∈ gs_W, w.before args s = true) (h : pr_D s) : ∀ w ∈ pr_at, w.before args s = true := by
  refine vx_hat (B := pr_B) (fun w hw => hts w (pr_mem w hw)) (fun w hw => by rw [pr_rest] at hw; exact hw) ?_
  exact vx_c (va_Nw.use rfl h.1) (vx_c (va_Nw.use rfl h.2.1) (vx_c (va_Nw.use rfl h.2.2.1) (vx_c (va_Nw.use rfl h.2.2.2) vx_n)))
/-- what a throw reads beside the graph -/
def pr_E (A : Nat → Prop) (U : State) (H : Heap) : Prop :=
  ((∃ sa : Nat, vk_R RX11 183 "no such person" sa U) ∧ ∃ sa : Nat, vk_R RX11 197 "no such what" sa U) ∧ pr_D U ∧ vx_Zq Bundle.tN "UNASSIGNED_STACK" Bundle.steD A U H ∧ vx_Zq Bundle.tN "SUPPRESSED_SENTINEL" Bundle.listD A U H
theorem pr_E.warm {A : Nat → Prop} {s U : State} {H : Heap} (hW : s.WarmedH U.vm) (h : pr_E A s H) : pr_E A U H := by
  obtain ⟨⟨⟨a, h1⟩, b, h2⟩, h3, h4, h5⟩ := h
  exact ⟨⟨⟨a, vk_R.warm hW h1⟩, b, vk_R.warm hW h2⟩, h3.warm hW, h4.moved hW.alike, h5.moved hW.alike⟩
theorem pr_E.same {A : Nat → Prop} {s U : State} {H : Heap} (hv : s.vm = U.vm) (h : pr_E A s H) : pr_E A U H := by
  obtain ⟨⟨⟨a, h1⟩, b, h2⟩, h3, h4, h5⟩ := h
  have hA : s.vm.Alike U.vm := by rw [hv]; exact Vm.Alike.refl U.vm
  exact ⟨⟨⟨a, vk_R.same hv.symm h1⟩, b, vk_R.same hv.symm h2⟩, h3.same hv, h4.moved hA, h5.moved hA⟩
theorem pr_E.kept {A : Nat → Prop} {U : State} {H H1 : Heap} (h : pr_E A U H) (hq : ∀ a : Nat, a < H.size → ¬ A a → H1[a]? = H[a]?) : pr_E A U H1 := ⟨h.1, h.2.1, h.2.2.1.kept hq, h.2.2.2.kept hq⟩
theorem pr_E.narrow {A B : Nat → Prop} {U : State} {H : Heap} (h : pr_E A U H) (hB : ∀ q, B q → A q) : pr_E B U H := ⟨h.1, h.2.1, h.2.2.1.narrow hB, h.2.2.2.narrow hB⟩
def pr_I (ad : Nat → Nat) (D : va_G) (dA : Nat → ClassId) (M : gs_M) (L : gs_L) (U : State) : Prop := gs_I ad D dA M L U ∧ pr_E (gs_A ad) U U.heap
theorem pr_blind {ad : Nat → Nat} {D : va_G} {dA : Nat → ClassId} {M : gs_M} {L : gs_L} {av : List Value} : FrameBlind (va_Pc av (pr_I ad D dA M L)) := by
  intro a U g mk h
  obtain ⟨h1, h2, h3⟩ := h
  obtain ⟨-, h4⟩ := gs_blind (av := av) a U g mk ⟨h1, h2⟩
  exact ⟨h1, h4, pr_E.same (s := U) (U := U.calling g mk a) rfl h3⟩
def pr_Q (ad : Nat → Nat) (D : va_G) (dA : Nat → ClassId) (fl v : Int32) (M : gs_M) (L : gs_L) : Array Value → State → Outcome → State → Prop := fun _ st oc t => fl = 0 ∧ oc = .returned (some (.int v)) ∧ va_P D vwCl (gs_ws ad dA M L) t.heap ∧ va_F (gs_A ad) st t
def pr_X (ad : Nat → Nat) (D : va_G) (dA : Nat → ClassId) (fl : Int32) (M : gs_M) (L : gs_L) : String → State → State → Prop := fun E st t => fl = 1 ∧ E = xN ∧ va_P D vwCl (gs_ws ad dA M L) t.heap ∧ va_F (gs_A ad) st t
def pr_room : Room := { frames := 6, cells := 1, slots := 6, locals := 480 }
def pr_room2 : Room := { frames := 7, cells := 1, slots := 6, locals := 600 }
/-- the walk of a body that may throw: its end, and what the throw needs -/
def pr_C (X : gs_X) (fl v : Int32) (M : gs_M) (L : gs_L) : Prop :=
  match X with
  | (_, l, _, R, s, _, args, below, _, c, Q, ad, D, dA) => Q = vx_MQ below (pr_Q ad D dA fl v M L) (pr_X ad D dA fl M L) args s 1 6 (gs_A ad) ∧ l.stackTraces = false ∧ (∀ x ∈ c.exceptionTable.toList, False) ∧ pr_E (gs_A ad) s s.heap ∧ R = pr_room
section PRows
variable {X : gs_X} {cc : ByteArray} {nL n : Nat} {ls : List (Nat × Value)} {M : gs_M} {L : gs_L} {fl v : Int32}
theorem pr_iret {own : String} (C : gs_C X own cc nL (some .int) n) (E : pr_C X fl v M L) (h0 : fl = 0) {pc : Nat} (hd : decode cc pc = .ok (.ireturn, 1)) : gs_AW X pc ls [.int v] M L := by
  obtain ⟨p, l, e, R, s, m, args, below, meth, c, Q, ad, D, dA⟩ := X
  obtain ⟨hx, hb, hml, hown, hts, hK, hinj, hE, hr, hlk, hR⟩ := C
  obtain ⟨hQ, hl9, hno, hPE, hRo⟩ := E
  intro H locs la hl hP hS
  subst hQ
  refine W.widen (Nat.zero_le 1) (Nat.zero_le 6) (vx_ret ?_)
  exact W.iret hx hb hr (fun t ht _ => ⟨h0, rfl, by rw [ht]; exact hP, hS.F ht⟩) hS.2.2 hd hlk
theorem pr_throw (C : gs_C X RX11 cc nL (some .int) n) (E : pr_C X fl v M L) (h1 : fl = 1) {pc is : Nat} {text : String}
    (htx : ∀ (s : State) (A : Nat → Prop) (H : Heap), pr_E A s H → ∃ sa : Nat, vk_R RX11 is text sa s)
    (d0 : decode cc pc = .ok (.new 181, 3)) (d3 : decode cc (pc + 3) = .ok (.dup, 1)) (d4 : decode cc (pc + 4) = .ok (.ldc is, 2)) (d6 : decode cc (pc + 6) = .ok (.invokespecial 185, 3)) (d9 : decode cc (pc + 9) = .ok (.athrow, 1)) : gs_AW X pc ls [] M L := by
  obtain ⟨p, l, e, R, s, m, args, below, meth, c, Q, ad, D, dA⟩ := X
  obtain ⟨hx, hb, hml, hown, hts, hK, hinj, hE, hr, hlk, hR⟩ := C
  obtain ⟨hQ, hl9, hno, hPE, hRo⟩ := E
  intro H locs la hl hP hS
  subst hQ
  subst hRo
  obtain ⟨sa, hsa⟩ := htx _ _ _ hPE
  have hg := List.all_eq_true.mp pr_ot
  refine vx_throwSX (rx := prog_30_method_4_code) (ix := 13) (names := [xR, xE]) (cls := xN) (own := RX11) (A := gs_A ad) (sa := sa) (text := text) hx hb hl9 (by decide +kernel) (by decide +kernel) (by decide +kernel) (by decide +kernel) hown (by decide +kernel) (by decide +kernel)
    (hts _ (gs_w6 39 rfl rfl)) (hts _ (gs_w1 24 rfl rfl)) hsa (pr_hat hts hPE.2.1) hg hPE.2.2.1 hPE.2.2.2 hS hl.1 d0 d3 d4 d6 d9 (fun x hx => (hno x hx).elim)
    (by decide) (Nat.le_of_ble_eq_true rfl) (by decide) (by decide) hlk ?_ hS.2.2 (by decide) (by decide)
  intro t hA hz hk
  refine ⟨h1, rfl, hP.kept (fun k q hq => hk _ (vx_lt hP hq)), Nat.le_trans hS.1 hz, fun q q1 q2 => ?_⟩
  rw [hk q (Nat.lt_of_lt_of_le q1 hS.1)]
  exact hS.2.1 q q1 q2
end PRows
theorem pr_t1 : ∀ (s : State) (A : Nat → Prop) (H : Heap), pr_E A s H → ∃ sa : Nat, vk_R RX11 183 "no such person" sa s := fun _ _ _ h => h.1.1
theorem pr_t2 : ∀ (s : State) (A : Nat → Prop) (H : Heap), pr_E A s H → ∃ sa : Nat, vk_R RX11 197 "no such what" sa s := fun _ _ _ h => h.1.2
theorem pr_i2 {a b c d : Int32} (h : (some (a, b) : Option (Int32 × Int32)) = some (c, d)) : c = a ∧ d = b := by
  injection h with h
  injection h with h1 h2
  exact ⟨h1.symm, h2.symm⟩
set_option maxRecDepth 100000 in
set_option maxHeartbeats 4000000 in
theorem pr_body {X : gs_X} {M : gs_M} {L : gs_L} {x1 x2 fl v : Int32} (C : gs_C X RX11 cX11_person 3 (some .int) 5) (E : pr_C X fl v M L) (h : f_X11_person M x1 x2 = some (fl, v)) : gs_AW X 0 [(0, .ref 0), (1, .int x1), (2, .int x2)] [] M L := by
  unfold f_X11_person at h
  refine gs_aload_n (pc := 0) C 0 dX11_person_0 rfl rfl ?_
  refine gs_iload_n (pc := 1) C 1 dX11_person_1 rfl rfl ?_
  obtain ⟨v1, e1, h⟩ := gs_o1 h
  refine gs_callVi (pc := 2) C [.int x1] dX11_person_2 ml_X11_178 wy_X11_isPerson (a_X11_isPerson _ e1) (by decide) sh_0 (by decide) rfl rfl (Nat.le_of_ble_eq_true rfl) rfl ?_
  by_cases c1 : v1 = (0 : Int32)
  · replace h := gs_ift c1 h
    refine gs_if_ne (pc := 5) C 18 dX11_person_5 rfl (fun hc => absurd c1 hc) (fun _ => ?_)
    exact pr_throw (pc := 8) C E (pr_i2 h).1 pr_t1 dX11_person_8 dX11_person_11 dX11_person_12 dX11_person_14 dX11_person_17
  replace h := gs_iff c1 h
  refine gs_if_ne (pc := 5) C 18 dX11_person_5 rfl (fun _ => ?_) (fun hc => absurd hc c1)
  refine gs_iload_n (pc := 18) C 2 dX11_person_18 rfl rfl ?_
  by_cases k0 : x2 = (0 : Int32)
  · replace h := gs_ift k0 h
    refine gs_tabIn (pc := 19) C 64 dX11_person_19 (by rw [k0]; decide) (by rw [k0]; decide) (off := 45) (by rw [k0]; decide) rfl ?_
    refine gs_aload_n (pc := 64) C 0 dX11_person_64 rfl rfl ?_
    refine gs_getq (pc := 65) C dX11_person_65 gk_11 fl_X11_29 sh_0 rfl ?_
    refine gs_iload_n (pc := 68) C 1 dX11_person_68 rfl rfl ?_
    refine gs_iconst (w := 0) (pc := 69) C dX11_person_69 rfl ?_
    obtain ⟨w1, e2, h⟩ := gs_o1 h
    refine gs_callVi (pc := 70) C [.int x1, .int 0] dX11_person_70 ml_X11_188 wy_X6_of (a_X6_of _ e2) (by decide) sh_9 (by decide) rfl rfl (Nat.le_of_ble_eq_true rfl) rfl ?_
    obtain ⟨i1, rfl⟩ := pr_i2 h
    exact pr_iret (pc := 73) C E i1 dX11_person_73
  replace h := gs_iff k0 h
  by_cases k1 : x2 = (1 : Int32)
  · replace h := gs_ift k1 h
    refine gs_tabIn (pc := 19) C 74 dX11_person_19 (by rw [k1]; decide) (by rw [k1]; decide) (off := 55) (by rw [k1]; decide) rfl ?_
    refine gs_aload_n (pc := 74) C 0 dX11_person_74 rfl rfl ?_
    refine gs_getq (pc := 75) C dX11_person_75 gk_11 fl_X11_19 sh_0 rfl ?_
    refine gs_iload_n (pc := 78) C 1 dX11_person_78 rfl rfl ?_
    refine gs_iconst (w := 1) (pc := 79) C dX11_person_79 rfl ?_
    obtain ⟨w1, e2, h⟩ := gs_o1 h
    refine gs_callVi (pc := 80) C [.int x1, .int 1] dX11_person_80 ml_X11_192 wy_X9_told (a_X9_told _ e2) (by decide) sh_3 (by decide) rfl rfl (Nat.le_of_ble_eq_true rfl) rfl ?_
    obtain ⟨i1, rfl⟩ := pr_i2 h
    exact pr_iret (pc := 83) C E i1 dX11_person_83
  replace h := gs_iff k1 h
  by_cases k2 : x2 = (2 : Int32)
  · replace h := gs_ift k2 h
    refine gs_tabIn (pc := 19) C 84 dX11_person_19 (by rw [k2]; decide) (by rw [k2]; decide) (off := 65) (by rw [k2]; decide) rfl ?_
    refine gs_aload_n (pc := 84) C 0 dX11_person_84 rfl rfl ?_
    refine gs_getq (pc := 85) C dX11_person_85 gk_11 fl_X11_29 sh_0 rfl ?_
    refine gs_iload_n (pc := 88) C 1 dX11_person_88 rfl rfl ?_
    refine gs_iconst (w := 1) (pc := 89) C dX11_person_89 rfl ?_
    obtain ⟨w1, e2, h⟩ := gs_o1 h
    refine gs_callVi (pc := 90) C [.int x1, .int 1] dX11_person_90 ml_X11_188 wy_X6_of (a_X6_of _ e2) (by decide) sh_9 (by decide) rfl rfl (Nat.le_of_ble_eq_true rfl) rfl ?_
    obtain ⟨i1, rfl⟩ := pr_i2 h
    exact pr_iret (pc := 93) C E i1 dX11_person_93
  replace h := gs_iff k2 h
  by_cases k3 : x2 = (3 : Int32)
  · replace h := gs_ift k3 h
    refine gs_tabIn (pc := 19) C 94 dX11_person_19 (by rw [k3]; decide) (by rw [k3]; decide) (off := 75) (by rw [k3]; decide) rfl ?_
    refine gs_aload_n (pc := 94) C 0 dX11_person_94 rfl rfl ?_
    refine gs_getq (pc := 95) C dX11_person_95 gk_11 fl_X11_29 sh_0 rfl ?_
    refine gs_iload_n (pc := 98) C 1 dX11_person_98 rfl rfl ?_
    refine gs_iconst (w := 2) (pc := 99) C dX11_person_99 rfl ?_
    obtain ⟨w1, e2, h⟩ := gs_o1 h
    refine gs_callVi (pc := 100) C [.int x1, .int 2] dX11_person_100 ml_X11_188 wy_X6_of (a_X6_of _ e2) (by decide) sh_9 (by decide) rfl rfl (Nat.le_of_ble_eq_true rfl) rfl ?_
    obtain ⟨i1, rfl⟩ := pr_i2 h
    exact pr_iret (pc := 103) C E i1 dX11_person_103
  replace h := gs_iff k3 h
  by_cases k4 : x2 = (4 : Int32)
  · replace h := gs_ift k4 h
    refine gs_tabIn (pc := 19) C 104 dX11_person_19 (by rw [k4]; decide) (by rw [k4]; decide) (off := 85) (by rw [k4]; decide) rfl ?_
    refine gs_aload_n (pc := 104) C 0 dX11_person_104 rfl rfl ?_
    refine gs_getq (pc := 105) C dX11_person_105 gk_11 fl_X11_19 sh_0 rfl ?_
    refine gs_iload_n (pc := 108) C 1 dX11_person_108 rfl rfl ?_
    obtain ⟨w1, e2, h⟩ := gs_o1 h
    refine gs_callVi (pc := 109) C [.int x1] dX11_person_109 ml_X11_194 wy_X9_spouse (a_X9_spouse _ e2) (by decide) sh_3 (by decide) rfl rfl (Nat.le_of_ble_eq_true rfl) rfl ?_
    obtain ⟨i1, rfl⟩ := pr_i2 h
    exact pr_iret (pc := 112) C E i1 dX11_person_112
  replace h := gs_iff k4 h
  by_cases k5 : x2 = (5 : Int32)
  · replace h := gs_ift k5 h
    refine gs_tabIn (pc := 19) C 113 dX11_person_19 (by rw [k5]; decide) (by rw [k5]; decide) (off := 94) (by rw [k5]; decide) rfl ?_
    refine gs_aload_n (pc := 113) C 0 dX11_person_113 rfl rfl ?_
    refine gs_getq (pc := 114) C dX11_person_114 gk_11 fl_X11_29 sh_0 rfl ?_
    refine gs_iload_n (pc := 117) C 1 dX11_person_117 rfl rfl ?_
    refine gs_iconst (w := 3) (pc := 118) C dX11_person_118 rfl ?_
    obtain ⟨w1, e2, h⟩ := gs_o1 h
    refine gs_callVi (pc := 119) C [.int x1, .int 3] dX11_person_119 ml_X11_188 wy_X6_of (a_X6_of _ e2) (by decide) sh_9 (by decide) rfl rfl (Nat.le_of_ble_eq_true rfl) rfl ?_
    obtain ⟨i1, rfl⟩ := pr_i2 h
    exact pr_iret (pc := 122) C E i1 dX11_person_122
  replace h := gs_iff k5 h
  by_cases k6 : x2 = (6 : Int32)
  · replace h := gs_ift k6 h
    refine gs_tabIn (pc := 19) C 123 dX11_person_19 (by rw [k6]; decide) (by rw [k6]; decide) (off := 104) (by rw [k6]; decide) rfl ?_
    refine gs_aload_n (pc := 123) C 0 dX11_person_123 rfl rfl ?_
    refine gs_getq (pc := 124) C dX11_person_124 gk_11 fl_X11_29 sh_0 rfl ?_
    refine gs_iload_n (pc := 127) C 1 dX11_person_127 rfl rfl ?_
    refine gs_iconst (w := 4) (pc := 128) C dX11_person_128 rfl ?_
    obtain ⟨w1, e2, h⟩ := gs_o1 h
    refine gs_callVi (pc := 129) C [.int x1, .int 4] dX11_person_129 ml_X11_188 wy_X6_of (a_X6_of _ e2) (by decide) sh_9 (by decide) rfl rfl (Nat.le_of_ble_eq_true rfl) rfl ?_
    obtain ⟨i1, rfl⟩ := pr_i2 h
    exact pr_iret (pc := 132) C E i1 dX11_person_132
  replace h := gs_iff k6 h
  by_cases k7 : x2 = (7 : Int32)
  · replace h := gs_ift k7 h
    refine gs_tabIn (pc := 19) C 133 dX11_person_19 (by rw [k7]; decide) (by rw [k7]; decide) (off := 114) (by rw [k7]; decide) rfl ?_
    refine gs_aload_n (pc := 133) C 0 dX11_person_133 rfl rfl ?_
    refine gs_getq (pc := 134) C dX11_person_134 gk_11 fl_X11_29 sh_0 rfl ?_
    refine gs_iload_n (pc := 137) C 1 dX11_person_137 rfl rfl ?_
    refine gs_iconst (w := 5) (pc := 138) C dX11_person_138 rfl ?_
    obtain ⟨w1, e2, h⟩ := gs_o1 h
    refine gs_callVi (pc := 139) C [.int x1, .int 5] dX11_person_139 ml_X11_188 wy_X6_of (a_X6_of _ e2) (by decide) sh_9 (by decide) rfl rfl (Nat.le_of_ble_eq_true rfl) rfl ?_
    obtain ⟨i1, rfl⟩ := pr_i2 h
    exact pr_iret (pc := 142) C E i1 dX11_person_142
  replace h := gs_iff k7 h
  refine gs_tabOut (pc := 19) C 143 dX11_person_19 ?_ rfl ?_
  · have q0 : x2.toInt ≠ 0 := fun z => k0 (Int32.toInt.inj z)
    have q1 : x2.toInt ≠ 1 := fun z => k1 (Int32.toInt.inj z)
    have q2 : x2.toInt ≠ 2 := fun z => k2 (Int32.toInt.inj z)
    have q3 : x2.toInt ≠ 3 := fun z => k3 (Int32.toInt.inj z)
    have q4 : x2.toInt ≠ 4 := fun z => k4 (Int32.toInt.inj z)
    have q5 : x2.toInt ≠ 5 := fun z => k5 (Int32.toInt.inj z)
    have q6 : x2.toInt ≠ 6 := fun z => k6 (Int32.toInt.inj z)
    have q7 : x2.toInt ≠ 7 := fun z => k7 (Int32.toInt.inj z)
    omega
  · exact pr_throw (pc := 143) C E (pr_i2 h).1 pr_t2 dX11_person_143 dX11_person_146 dX11_person_147 dX11_person_149 dX11_person_152
set_option maxRecDepth 100000 in
set_option maxHeartbeats 4000000 in
theorem a_X11_personX {l : Launch} (hl9 : l.stackTraces = false) {M : gs_M} {L : gs_L} {x1 x2 fl v : Int32} (h : f_X11_person M x1 x2 = some (fl, v)) (ad : Nat → Nat) (D : va_G) (dA : Nat → ClassId) :
    vx_Met l yX11_person (Cond.code yX11_person cX11_person 3 (some .int) :: gs_W) pr_room (va_Pc (([.ref 0, .int x1, .int x2] : List Value).map (gs_cv ad)) (pr_I ad D dA M L)) (pr_Q ad D dA fl v M L) (pr_X ad D dA fl M L) 1 6 (gs_A ad) := by
  refine vx_ofW (cc := cX11_person) (maxL := 3) (ret := some .int) (by decide) rfl ?_
  intro p e s m args below meth c s₁ B hml hno hv
  obtain ⟨rfl, ⟨hP, hK, hinj, hE⟩, hPE⟩ := hv
  have hts := atoms_spec (ws := Cond.code yX11_person cX11_person 3 (some .int) :: gs_W) B.pre
  have hfc : s.vm.findClass RX11 = some m.cls := findClass_of_methodNamed B.named
  have hl0 := lv_entry (([.ref 0, .int x1, .int x2] : List Value).map (gs_cv ad)) (n := 3) (by rw [gs_sl_len]; exact Nat.le_of_ble_eq_true rfl)
  rw [lg_entry_eq]
  have C : gs_C (p, l, e, pr_room, s, m, (([.ref 0, .int x1, .int x2] : List Value).map (gs_cv ad)).toArray, below, meth, c, vx_MQ below (pr_Q ad D dA fl v M L) (pr_X ad D dA fl M L) (([.ref 0, .int x1, .int x2] : List Value).map (gs_cv ad)).toArray s 1 6 (gs_A ad), ad, D, dA) RX11 cX11_person 3 (some .int) 5 := ⟨B.exec, B.bytes, hml, hfc, fun w hw => hts w (List.mem_cons_of_mem _ hw), hK, hinj, hE, B.returns, B.notSynchronized, by decide, by decide⟩
  have E : pr_C (p, l, e, pr_room, s, m, (([.ref 0, .int x1, .int x2] : List Value).map (gs_cv ad)).toArray, below, meth, c, vx_MQ below (pr_Q ad D dA fl v M L) (pr_X ad D dA fl M L) (([.ref 0, .int x1, .int x2] : List Value).map (gs_cv ad)).toArray s 1 6 (gs_A ad), ad, D, dA) fl v M L := ⟨rfl, hl9, hno, hPE, rfl⟩
  exact pr_body C E h s.heap [] _ (by rw [hml]; exact hl0) hP va_S.rf
