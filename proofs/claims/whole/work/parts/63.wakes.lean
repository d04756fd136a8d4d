/-! WAKES, POINTS, CASES: class and model -/
section Wakes
variable {s : Nat → Int} {T : Nat → Nat → Int} {V : ma_V} {M : gs_M}
theorem c_spell (M : gs_M) (a b c d e f : Int32) : ∃ M1, f_X4_spell M a b c d e f = some M1 ∧ (∀ r, r ≠ 107 → M1 r = M r) ∧ M1 107 0 = a ∧ M1 107 1 = b ∧ M1 107 2 = c ∧ M1 107 3 = d ∧ M1 107 4 = e ∧ M1 107 5 = f := by
  refine ⟨gs_up (gs_up (gs_up (gs_up (gs_up (gs_up M 107 0 a) 107 1 b) 107 2 c) 107 3 d) 107 4 e) 107 5 f, ?_, ?_, ?_, ?_, ?_, ?_, ?_, ?_⟩
  · unfold f_X4_spell
    simp (disch := omega) only [qn0, qn1, qn2, qn3, qn4, qn5, qn6, qn7, qn8, qn9, qn10, qn11, qn12, qn13, qn14, qn15, qn16, qn17, qn18, qn24, qn30, qn31, qn32, qn33, qn36, qn38, qn40, qn41, qn42, qn43, qn45, qn47, qn48, qn49, qn50, qn51, qn52, qn53, qn57, qn58, qn59, qn60, qn61, qn62, qn63, qn91, qn93, qn97, qn99, qn100, qn103, qn104, qn112, qn113, qn115, qn116, qn118, qn119, qn121, qn124, qn173, qn177, qn240, qn255, qn295, qn352, qn353, qn533, qn999, qn1000, qn1023, qn6561, qn10000, qn20787, qn1000000, qn252645135, qn858993459, qn1000000000, qn1431655765, q_s1, q_s2, q_s3, q_s4, q_s5, iI_add, iI_sub, iI_mul, iI_neg, q_lt, q_le, q_eq, qz0, qz1, qz2, qz3, if_pos, if_neg, reduceIte, q_wr]
    rfl
  · intro r hr
    simp only [ma_row_ne _ _ _ _ _ hr]
  all_goals simp [gs_up]
theorem ma_ag107 {M M1 : gs_M} (h : ∀ r, r ≠ 107 → M1 r = M r) : iv_ag M M1 := by
  intro a b e
  by_cases c : a = 107
  · subst c; cases e
  · rw [h a c]
theorem ma_ag151 {M M1 : gs_M} (h : ∀ r, r ≠ 151 → M1 r = M r) : iv_ag M M1 := by
  intro a b e
  by_cases c : a = 151
  · subst c; cases e
  · rw [h a c]
theorem q_rdq {k : Nat} (hk : k < 4) : gs_rdq 106 4 (iI k) = some (108 + 6 * k) := gs_rdq_nI (r := 106) (k := 4) hk (by decide)
theorem c_wk (W : ma_W s T V) (C : ma_C s T V M) {p h : Nat} (hp : (p : Int) < T 3 0) (hh : (h : Int) < T 1 0) {g w : Int} (hg : 0 ≤ g ∧ g ≤ 9) (hw : 0 ≤ w ∧ w ≤ 9) : ∃ M1, f_X4_wakesIf M (iI p) (iI h) (iI g) (iI w) = some (iI (ma_wk s T V p h g w), M1) ∧ iv_ag M M1 := by
  obtain ⟨f1, f2, f3, f4, f5, f6, f7, f8, -⟩ := W.2.1
  have hp8 : p < 8 := by omega
  have o := W.1.1 p hp8
  unfold ma_one at o
  have hc := f5 p hp
  have e1 := c_con C hp hp8
  have e2 := c_of2 C.st hp8
  by_cases hl : T 3 2 = -1
  · refine ⟨M, ?_, iv_ag.rf⟩
    have e4 : f_X4_has M (M 105 5) = some (iI 0) := by
      unfold f_X4_has
      rw [C.la, C.lm, hl]
      simp (disch := omega) only [qn0, qn1, qn2, qn3, qn4, qn5, qn6, qn7, qn8, qn9, qn10, qn11, qn12, qn13, qn14, qn15, qn16, qn17, qn18, qn24, qn30, qn31, qn32, qn33, qn36, qn38, qn40, qn41, qn42, qn43, qn45, qn47, qn48, qn49, qn50, qn51, qn52, qn53, qn57, qn58, qn59, qn60, qn61, qn62, qn63, qn91, qn93, qn97, qn99, qn100, qn103, qn104, qn112, qn113, qn115, qn116, qn118, qn119, qn121, qn124, qn173, qn177, qn240, qn255, qn295, qn352, qn353, qn533, qn999, qn1000, qn1023, qn6561, qn10000, qn20787, qn1000000, qn252645135, qn858993459, qn1000000000, qn1431655765, q_s1, q_s2, q_s3, q_s4, q_s5, iI_add, iI_sub, iI_mul, iI_neg, q_lt, q_le, q_eq, qz0, qz1, qz2, qz3, if_pos, if_neg, reduceIte]
    have e3 := c_of3 C.st hp8
    have e5 := c_ruled2 C
    unfold f_X4_wakesIf ma_wk
    rw [if_pos hl]
    rcases (by omega : s (6 * p + 3) = 0 ∨ s (6 * p + 3) = 1) with c3 | c3 <;> rw [c3] at e3 <;> rw [c3] <;> simp (disch := omega) only [qn0, qn1, qn2, qn3, qn4, qn5, qn6, qn7, qn8, qn9, qn10, qn11, qn12, qn13, qn14, qn15, qn16, qn17, qn18, qn24, qn30, qn31, qn32, qn33, qn36, qn38, qn40, qn41, qn42, qn43, qn45, qn47, qn48, qn49, qn50, qn51, qn52, qn53, qn57, qn58, qn59, qn60, qn61, qn62, qn63, qn91, qn93, qn97, qn99, qn100, qn103, qn104, qn112, qn113, qn115, qn116, qn118, qn119, qn121, qn124, qn173, qn177, qn240, qn255, qn295, qn352, qn353, qn533, qn999, qn1000, qn1023, qn6561, qn10000, qn20787, qn1000000, qn252645135, qn858993459, qn1000000000, qn1431655765, q_s1, q_s2, q_s3, q_s4, q_s5, iI_add, iI_sub, iI_mul, iI_neg, q_lt, q_le, q_eq, qz0, qz1, qz2, qz3, if_pos, if_neg, reduceIte, e1, e2, e3, e4, e5, q_cl1, Int.zero_mul, Int.one_mul, Int.add_zero]
  · obtain ⟨k, hk⟩ : ∃ k : Nat, T 3 2 = k := ⟨(T 3 2).toNat, by omega⟩
    have e4 : f_X4_has M (M 105 5) = some (iI 1) := by
      unfold f_X4_has
      rw [C.la, C.lm, hk]
      simp (disch := omega) only [qn0, qn1, qn2, qn3, qn4, qn5, qn6, qn7, qn8, qn9, qn10, qn11, qn12, qn13, qn14, qn15, qn16, qn17, qn18, qn24, qn30, qn31, qn32, qn33, qn36, qn38, qn40, qn41, qn42, qn43, qn45, qn47, qn48, qn49, qn50, qn51, qn52, qn53, qn57, qn58, qn59, qn60, qn61, qn62, qn63, qn91, qn93, qn97, qn99, qn100, qn103, qn104, qn112, qn113, qn115, qn116, qn118, qn119, qn121, qn124, qn173, qn177, qn240, qn255, qn295, qn352, qn353, qn533, qn999, qn1000, qn1023, qn6561, qn10000, qn20787, qn1000000, qn252645135, qn858993459, qn1000000000, qn1431655765, q_s1, q_s2, q_s3, q_s4, q_s5, iI_add, iI_sub, iI_mul, iI_neg, q_lt, q_le, q_eq, qz0, qz1, qz2, qz3, if_pos, if_neg, reduceIte]
    obtain ⟨M1, a1, a2, b0, b1, b2, b3, b4, b5⟩ := c_spell M (iI g) (iI (T 2 (5 * p + 1))) (iI w) (iI (s (6 * p + 2))) (iI h) (iI 0)
    have hin : ma_in g (T 2 (5 * p + 1)) w (s (6 * p + 2)) h 0 := by unfold ma_in; omega
    obtain ⟨M2, d1, d2⟩ := C.ll (k := k) (by omega) 121 g (T 2 (5 * p + 1)) w (s (6 * p + 2)) h 0 (Or.inl rfl) hin M1 (fun r r1 r2 => a2 r (by omega)) b0 b1 b2 b3 b4 b5
    have hv := W.2.2 k 121 g (T 2 (5 * p + 1)) w (s (6 * p + 2)) h 0 (by omega) (Or.inl rfl) hin
    have g1 : iv_ag M M2 := (ma_ag107 a2).tr d2
    have C2 := C.ag W.2.1 g1
    have e3 := c_of3 C2.st hp8
    have e5 := c_ruled2 C2
    have e6 : M1 105 5 = iI k := by rw [a2 105 (by decide), C.la, hk]
    have e7 : gs_rdq 106 4 (M1 105 5) = some (108 + 6 * k) := by
      rw [e6]
      exact q_rdq (by omega)
    refine ⟨M2, ?_, g1⟩
    unfold f_X4_wakesIf ma_wk
    rw [if_neg hl, hk, Int.toNat_natCast]
    rcases (by omega : s (6 * p + 3) = 0 ∨ s (6 * p + 3) = 1) with c3 | c3 <;> rw [c3] at e3 <;> rw [c3] <;> simp (disch := omega) only [qn0, qn1, qn2, qn3, qn4, qn5, qn6, qn7, qn8, qn9, qn10, qn11, qn12, qn13, qn14, qn15, qn16, qn17, qn18, qn24, qn30, qn31, qn32, qn33, qn36, qn38, qn40, qn41, qn42, qn43, qn45, qn47, qn48, qn49, qn50, qn51, qn52, qn53, qn57, qn58, qn59, qn60, qn61, qn62, qn63, qn91, qn93, qn97, qn99, qn100, qn103, qn104, qn112, qn113, qn115, qn116, qn118, qn119, qn121, qn124, qn173, qn177, qn240, qn255, qn295, qn352, qn353, qn533, qn999, qn1000, qn1023, qn6561, qn10000, qn20787, qn1000000, qn252645135, qn858993459, qn1000000000, qn1431655765, q_s1, q_s2, q_s3, q_s4, q_s5, iI_add, iI_sub, iI_mul, iI_neg, q_lt, q_le, q_eq, qz0, qz1, qz2, qz3, if_pos, if_neg, reduceIte, e1, e2, e3, e4, e5, a1, e7, d1, q_cl1, Int.zero_mul, Int.one_mul, Int.add_zero]
theorem c_now (W : ma_W s T V) (C : ma_C s T V M) {p h : Nat} (hp : (p : Int) < T 3 0) (hh : (h : Int) < T 1 0) : ∃ M1, f_X4_wakesNow M (iI p) (iI h) = some (iI (ma_wk s T V p h (s (6 * p)) (s (6 * p + 1))), M1) ∧ iv_ag M M1 := by
  have f1 := W.2.1.1
  have hp8 : p < 8 := by omega
  have o := W.1.1 p hp8
  unfold ma_one at o
  obtain ⟨M1, e, g⟩ := c_wk W C hp hh (g := s (6 * p)) (w := s (6 * p + 1)) (by omega) (by omega)
  refine ⟨M1, ?_, g⟩
  unfold f_X4_wakesNow
  simp (disch := omega) only [qn0, qn1, qn2, qn3, qn4, qn5, qn6, qn7, qn8, qn9, qn10, qn11, qn12, qn13, qn14, qn15, qn16, qn17, qn18, qn24, qn30, qn31, qn32, qn33, qn36, qn38, qn40, qn41, qn42, qn43, qn45, qn47, qn48, qn49, qn50, qn51, qn52, qn53, qn57, qn58, qn59, qn60, qn61, qn62, qn63, qn91, qn93, qn97, qn99, qn100, qn103, qn104, qn112, qn113, qn115, qn116, qn118, qn119, qn121, qn124, qn173, qn177, qn240, qn255, qn295, qn352, qn353, qn533, qn999, qn1000, qn1023, qn6561, qn10000, qn20787, qn1000000, qn252645135, qn858993459, qn1000000000, qn1431655765, q_s1, q_s2, q_s3, q_s4, q_s5, iI_add, iI_sub, iI_mul, iI_neg, q_lt, q_le, q_eq, qz0, qz1, qz2, qz3, if_pos, if_neg, reduceIte, c_of0 C.st hp8, c_of1 C.st hp8, e]
theorem c_with (W : ma_W s T V) (C : ma_C s T V M) {p h : Nat} (hp : (p : Int) < T 3 0) (hh : (h : Int) < T 1 0) {g : Int} (hg : 0 ≤ g ∧ g ≤ 9) : ∃ M1, f_X4_wakesWith M (iI g) (iI p) (iI h) = some (iI (ma_wk s T V p h g (s (6 * p + 1))), M1) ∧ iv_ag M M1 := by
  have f1 := W.2.1.1
  have hp8 : p < 8 := by omega
  have o := W.1.1 p hp8
  unfold ma_one at o
  obtain ⟨M1, e, g⟩ := c_wk W C hp hh (g := g) (w := s (6 * p + 1)) (by omega) (by omega)
  refine ⟨M1, ?_, g⟩
  unfold f_X4_wakesWith
  simp (disch := omega) only [qn0, qn1, qn2, qn3, qn4, qn5, qn6, qn7, qn8, qn9, qn10, qn11, qn12, qn13, qn14, qn15, qn16, qn17, qn18, qn24, qn30, qn31, qn32, qn33, qn36, qn38, qn40, qn41, qn42, qn43, qn45, qn47, qn48, qn49, qn50, qn51, qn52, qn53, qn57, qn58, qn59, qn60, qn61, qn62, qn63, qn91, qn93, qn97, qn99, qn100, qn103, qn104, qn112, qn113, qn115, qn116, qn118, qn119, qn121, qn124, qn173, qn177, qn240, qn255, qn295, qn352, qn353, qn533, qn999, qn1000, qn1023, qn6561, qn10000, qn20787, qn1000000, qn252645135, qn858993459, qn1000000000, qn1431655765, q_s1, q_s2, q_s3, q_s4, q_s5, iI_add, iI_sub, iI_mul, iI_neg, q_lt, q_le, q_eq, qz0, qz1, qz2, qz3, if_pos, if_neg, reduceIte, c_of1 C.st hp8, e]
theorem m_lay (C : ma_M s T V M) {p : Nat} (hp : (p : Int) < T 3 0) (hp8 : p < 8) (g t h a : Int32) : ∃ M1, f_X12_lay M g (iI p) t h a = some M1 ∧ (∀ r, r ≠ 151 → M1 r = M r) ∧ M1 151 103 = g ∧ M1 151 99 = iI (T 2 (5 * p + 1)) ∧ M1 151 119 = iI (s (6 * p + 1)) ∧ M1 151 116 = t ∧ M1 151 104 = h ∧ M1 151 97 = a := by
  have e1 : f_X12_conscience (gs_up M 151 103 g) (iI p) = some (iI (T 2 (5 * p + 1))) := by
    have := m_con C hp hp8
    unfold f_X12_conscience gs_rd at *
    rw [ma_row_ne _ _ _ _ _ (by decide)]
    exact this
  have e2 : f_X12_of (gs_up (gs_up M 151 103 g) 151 99 (iI (T 2 (5 * p + 1)))) (iI p) (iI 1) = some (iI (s (6 * p + 1))) := by
    have := m_of1 C.st hp8
    unfold f_X12_of gs_rd at *
    rw [ma_row_ne _ _ _ _ _ (by decide), ma_row_ne _ _ _ _ _ (by decide)]
    exact this
  refine ⟨gs_up (gs_up (gs_up (gs_up (gs_up (gs_up M 151 103 g) 151 99 (iI (T 2 (5 * p + 1)))) 151 119 (iI (s (6 * p + 1)))) 151 116 t) 151 104 h) 151 97 a, ?_, ?_, ?_, ?_, ?_, ?_, ?_, ?_⟩
  · unfold f_X12_lay
    rw [qn103, q_wrn (z := 103) 103 rfl (by decide) (by decide), gs_s1, e1, gs_s1, qn99, q_wrn (z := 99) 99 rfl (by decide) (by decide), gs_s1, qn1, e2, gs_s1, qn119, q_wrn (z := 119) 119 rfl (by decide) (by decide), gs_s1, qn116, q_wrn (z := 116) 116 rfl (by decide) (by decide), gs_s1, qn104, q_wrn (z := 104) 104 rfl (by decide) (by decide), gs_s1, qn97, q_wrn (z := 97) 97 rfl (by decide) (by decide), gs_s1]
  · intro r hr
    simp only [ma_row_ne _ _ _ _ _ hr]
  all_goals simp [gs_up]
theorem m_wk (W : ma_W s T V) (C : ma_M s T V M) {p h : Nat} (hp : (p : Int) < T 3 0) (hh : (h : Int) < T 1 0) {g : Int} (hg : 0 ≤ g ∧ g ≤ 9) : ∃ M1, f_X12_wakesBy M (iI g) (iI p) (iI h) = some (iI (ma_wk s T V p h g (s (6 * p + 1))), M1) ∧ iv_ag M M1 := by
  obtain ⟨f1, f2, f3, f4, f5, f6, f7, f8, -⟩ := W.2.1
  have hp8 : p < 8 := by omega
  have o := W.1.1 p hp8
  unfold ma_one at o
  have hc := f5 p hp
  have e1 := m_con C hp hp8
  have e2 := m_of2 C.st hp8
  have e0 := m_of1 C.st hp8
  by_cases hl : T 3 2 = -1
  · refine ⟨M, ?_, iv_ag.rf⟩
    have e3 := m_of3 C.st hp8
    have e5 := m_rule2 C
    have e4 := C.la
    rw [hl] at e4
    unfold f_X12_wakesBy ma_wk
    rw [if_pos hl]
    rcases (by omega : s (6 * p + 3) = 0 ∨ s (6 * p + 3) = 1) with c3 | c3 <;> rw [c3] at e3 <;> rw [c3] <;> simp (disch := omega) only [qn0, qn1, qn2, qn3, qn4, qn5, qn6, qn7, qn8, qn9, qn10, qn11, qn12, qn13, qn14, qn15, qn16, qn17, qn18, qn24, qn30, qn31, qn32, qn33, qn36, qn38, qn40, qn41, qn42, qn43, qn45, qn47, qn48, qn49, qn50, qn51, qn52, qn53, qn57, qn58, qn59, qn60, qn61, qn62, qn63, qn91, qn93, qn97, qn99, qn100, qn103, qn104, qn112, qn113, qn115, qn116, qn118, qn119, qn121, qn124, qn173, qn177, qn240, qn255, qn295, qn352, qn353, qn533, qn999, qn1000, qn1023, qn6561, qn10000, qn20787, qn1000000, qn252645135, qn858993459, qn1000000000, qn1431655765, q_s1, q_s2, q_s3, q_s4, q_s5, iI_add, iI_sub, iI_mul, iI_neg, q_lt, q_le, q_eq, qz0, qz1, qz2, qz3, if_pos, if_neg, reduceIte, e0, e1, e2, e3, e4, e5, q_cl2, Int.zero_mul, Int.one_mul, Int.add_zero]
  · obtain ⟨k, hk⟩ : ∃ k : Nat, T 3 2 = k := ⟨(T 3 2).toNat, by omega⟩
    obtain ⟨M1, a1, a2, b0, b1, b2, b3, b4, b5⟩ := m_lay C hp hp8 (iI g) (iI (s (6 * p + 2))) (iI h) (iI 0)
    have hin : ma_in g (T 2 (5 * p + 1)) (s (6 * p + 1)) (s (6 * p + 2)) h 0 := by unfold ma_in; omega
    obtain ⟨M2, d1, d3, d2⟩ := C.ll (k := k) (by omega) 121 g (T 2 (5 * p + 1)) (s (6 * p + 1)) (s (6 * p + 2)) h 0 (Or.inl rfl) hin M1 (fun i _ _ => by rw [a2 149 (by decide)]) b0 b1 b2 b3 b4 b5
    have hv := W.2.2 k 121 g (T 2 (5 * p + 1)) (s (6 * p + 1)) (s (6 * p + 2)) h 0 (by omega) (Or.inl rfl) hin
    have g1 : iv_ag M M2 := (ma_ag151 a2).tr d2
    have C2 := C.ag W.2.1 g1
    have e3 := m_of3 C2.st hp8
    have e5 := m_rule2 C2
    have e4 := C.la
    rw [hk] at e4
    have e6 : M1 147 29 = iI k := by rw [a2 147 (by decide), e4]
    have e7 : gs_rd M1 150 4 (iI k) = some (M 150 k) := by
      rw [q_rdn k rfl (by omega) (by decide), a2 150 (by decide)]
    refine ⟨M2, ?_, g1⟩
    unfold f_X12_wakesBy ma_wk
    rw [if_neg hl, hk, Int.toNat_natCast]
    rcases (by omega : s (6 * p + 3) = 0 ∨ s (6 * p + 3) = 1) with c3 | c3 <;> rw [c3] at e3 <;> rw [c3] <;> simp (disch := omega) only [qn0, qn1, qn2, qn3, qn4, qn5, qn6, qn7, qn8, qn9, qn10, qn11, qn12, qn13, qn14, qn15, qn16, qn17, qn18, qn24, qn30, qn31, qn32, qn33, qn36, qn38, qn40, qn41, qn42, qn43, qn45, qn47, qn48, qn49, qn50, qn51, qn52, qn53, qn57, qn58, qn59, qn60, qn61, qn62, qn63, qn91, qn93, qn97, qn99, qn100, qn103, qn104, qn112, qn113, qn115, qn116, qn118, qn119, qn121, qn124, qn173, qn177, qn240, qn255, qn295, qn352, qn353, qn533, qn999, qn1000, qn1023, qn6561, qn10000, qn20787, qn1000000, qn252645135, qn858993459, qn1000000000, qn1431655765, q_s1, q_s2, q_s3, q_s4, q_s5, iI_add, iI_sub, iI_mul, iI_neg, q_lt, q_le, q_eq, qz0, qz1, qz2, qz3, if_pos, if_neg, reduceIte, e0, e1, e2, e3, e4, e5, a1, e7, e6, d1, d3, q_cl2, Int.zero_mul, Int.one_mul, Int.add_zero]
theorem m_now (W : ma_W s T V) (C : ma_M s T V M) {p h : Nat} (hp : (p : Int) < T 3 0) (hh : (h : Int) < T 1 0) : ∃ M1, f_X12_wakesNow M (iI p) (iI h) = some (iI (ma_wk s T V p h (s (6 * p)) (s (6 * p + 1))), M1) ∧ iv_ag M M1 := by
  have f1 := W.2.1.1
  have hp8 : p < 8 := by omega
  have o := W.1.1 p hp8
  unfold ma_one at o
  obtain ⟨M1, e, g⟩ := m_wk W C hp hh (g := s (6 * p)) (by omega)
  refine ⟨M1, ?_, g⟩
  unfold f_X12_wakesNow
  simp (disch := omega) only [qn0, qn1, qn2, qn3, qn4, qn5, qn6, qn7, qn8, qn9, qn10, qn11, qn12, qn13, qn14, qn15, qn16, qn17, qn18, qn24, qn30, qn31, qn32, qn33, qn36, qn38, qn40, qn41, qn42, qn43, qn45, qn47, qn48, qn49, qn50, qn51, qn52, qn53, qn57, qn58, qn59, qn60, qn61, qn62, qn63, qn91, qn93, qn97, qn99, qn100, qn103, qn104, qn112, qn113, qn115, qn116, qn118, qn119, qn121, qn124, qn173, qn177, qn240, qn255, qn295, qn352, qn353, qn533, qn999, qn1000, qn1023, qn6561, qn10000, qn20787, qn1000000, qn252645135, qn858993459, qn1000000000, qn1431655765, q_s1, q_s2, q_s3, q_s4, q_s5, iI_add, iI_sub, iI_mul, iI_neg, q_lt, q_le, q_eq, qz0, qz1, qz2, qz3, if_pos, if_neg, reduceIte, m_of0 C.st hp8, e]
theorem c_pt (W : ma_W s T V) (C : ma_C s T V M) {p : Nat} (hp : (p : Int) < T 3 0) {l h a t : Int} (hl : -1 ≤ l ∧ l < T 3 4) (hh : 0 ≤ h ∧ h ≤ 8) (ha : 0 ≤ a ∧ a ≤ 1) (ht : 0 ≤ t ∧ t ≤ 9) : ∃ M1, f_X4_pointsBy M (iI l) (iI p) (iI h) (iI a) (iI t) = some (iI (ma_pt s T V l p h a t), M1) ∧ iv_ag M M1 := by
  obtain ⟨f1, f2, f3, f4, f5, f6, f7, f8, -⟩ := W.2.1
  have hp8 : p < 8 := by omega
  have o := W.1.1 p hp8
  unfold ma_one at o
  have hc := f5 p hp
  by_cases hl1 : l = -1
  · subst hl1
    refine ⟨M, ?_, iv_ag.rf⟩
    have e4 : f_X4_has M (iI (-1)) = some (iI 0) := by
      unfold f_X4_has
      rw [C.lm]
      simp (disch := omega) only [qn0, qn1, qn2, qn3, qn4, qn5, qn6, qn7, qn8, qn9, qn10, qn11, qn12, qn13, qn14, qn15, qn16, qn17, qn18, qn24, qn30, qn31, qn32, qn33, qn36, qn38, qn40, qn41, qn42, qn43, qn45, qn47, qn48, qn49, qn50, qn51, qn52, qn53, qn57, qn58, qn59, qn60, qn61, qn62, qn63, qn91, qn93, qn97, qn99, qn100, qn103, qn104, qn112, qn113, qn115, qn116, qn118, qn119, qn121, qn124, qn173, qn177, qn240, qn255, qn295, qn352, qn353, qn533, qn999, qn1000, qn1023, qn6561, qn10000, qn20787, qn1000000, qn252645135, qn858993459, qn1000000000, qn1431655765, q_s1, q_s2, q_s3, q_s4, q_s5, iI_add, iI_sub, iI_mul, iI_neg, q_lt, q_le, q_eq, qz0, qz1, qz2, qz3, if_pos, if_neg, reduceIte]
    unfold f_X4_pointsBy ma_pt
    rcases (by omega : a = 0 ∨ a = 1) with c3 | c3 <;> subst c3 <;> simp (disch := omega) only [qn0, qn1, qn2, qn3, qn4, qn5, qn6, qn7, qn8, qn9, qn10, qn11, qn12, qn13, qn14, qn15, qn16, qn17, qn18, qn24, qn30, qn31, qn32, qn33, qn36, qn38, qn40, qn41, qn42, qn43, qn45, qn47, qn48, qn49, qn50, qn51, qn52, qn53, qn57, qn58, qn59, qn60, qn61, qn62, qn63, qn91, qn93, qn97, qn99, qn100, qn103, qn104, qn112, qn113, qn115, qn116, qn118, qn119, qn121, qn124, qn173, qn177, qn240, qn255, qn295, qn352, qn353, qn533, qn999, qn1000, qn1023, qn6561, qn10000, qn20787, qn1000000, qn252645135, qn858993459, qn1000000000, qn1431655765, q_s1, q_s2, q_s3, q_s4, q_s5, iI_add, iI_sub, iI_mul, iI_neg, q_lt, q_le, q_eq, qz0, qz1, qz2, qz3, if_pos, if_neg, reduceIte, e4]
  · obtain ⟨k, rfl⟩ : ∃ k : Nat, l = k := ⟨l.toNat, by omega⟩
    have e4 : f_X4_has M (iI k) = some (iI 1) := by
      unfold f_X4_has
      rw [C.lm]
      simp (disch := omega) only [qn0, qn1, qn2, qn3, qn4, qn5, qn6, qn7, qn8, qn9, qn10, qn11, qn12, qn13, qn14, qn15, qn16, qn17, qn18, qn24, qn30, qn31, qn32, qn33, qn36, qn38, qn40, qn41, qn42, qn43, qn45, qn47, qn48, qn49, qn50, qn51, qn52, qn53, qn57, qn58, qn59, qn60, qn61, qn62, qn63, qn91, qn93, qn97, qn99, qn100, qn103, qn104, qn112, qn113, qn115, qn116, qn118, qn119, qn121, qn124, qn173, qn177, qn240, qn255, qn295, qn352, qn353, qn533, qn999, qn1000, qn1023, qn6561, qn10000, qn20787, qn1000000, qn252645135, qn858993459, qn1000000000, qn1431655765, q_s1, q_s2, q_s3, q_s4, q_s5, iI_add, iI_sub, iI_mul, iI_neg, q_lt, q_le, q_eq, qz0, qz1, qz2, qz3, if_pos, if_neg, reduceIte]
    obtain ⟨M1, a1, a2, b0, b1, b2, b3, b4, b5⟩ := c_spell M (iI (s (6 * p))) (iI (T 2 (5 * p + 1))) (iI (s (6 * p + 1))) (iI t) (iI h) (iI a)
    have hin : ma_in (s (6 * p)) (T 2 (5 * p + 1)) (s (6 * p + 1)) t h a := by unfold ma_in; omega
    obtain ⟨M2, d1, d2⟩ := C.ll (k := k) (by omega) 118 (s (6 * p)) (T 2 (5 * p + 1)) (s (6 * p + 1)) t h a (Or.inr rfl) hin M1 (fun r r1 r2 => a2 r (by omega)) b0 b1 b2 b3 b4 b5
    have hv := W.2.2 k 118 (s (6 * p)) (T 2 (5 * p + 1)) (s (6 * p + 1)) t h a (by omega) (Or.inr rfl) hin
    refine ⟨M2, ?_, (ma_ag107 a2).tr d2⟩
    unfold f_X4_pointsBy ma_pt
    rw [if_neg hl1, Int.toNat_natCast]
    simp (disch := omega) only [qn0, qn1, qn2, qn3, qn4, qn5, qn6, qn7, qn8, qn9, qn10, qn11, qn12, qn13, qn14, qn15, qn16, qn17, qn18, qn24, qn30, qn31, qn32, qn33, qn36, qn38, qn40, qn41, qn42, qn43, qn45, qn47, qn48, qn49, qn50, qn51, qn52, qn53, qn57, qn58, qn59, qn60, qn61, qn62, qn63, qn91, qn93, qn97, qn99, qn100, qn103, qn104, qn112, qn113, qn115, qn116, qn118, qn119, qn121, qn124, qn173, qn177, qn240, qn255, qn295, qn352, qn353, qn533, qn999, qn1000, qn1023, qn6561, qn10000, qn20787, qn1000000, qn252645135, qn858993459, qn1000000000, qn1431655765, q_s1, q_s2, q_s3, q_s4, q_s5, iI_add, iI_sub, iI_mul, iI_neg, q_lt, q_le, q_eq, qz0, qz1, qz2, qz3, if_pos, if_neg, reduceIte, e4, c_of0 C.st hp8, c_of1 C.st hp8, c_con C hp hp8, a1, q_rdq (show k < 4 by omega), d1, q_cl3]
theorem m_pt (W : ma_W s T V) (C : ma_M s T V M) {p : Nat} (hp : (p : Int) < T 3 0) {l h a t : Int} (hl : -1 ≤ l ∧ l < T 3 4) (hh : 0 ≤ h ∧ h ≤ 8) (ha : 0 ≤ a ∧ a ≤ 1) (ht : 0 ≤ t ∧ t ≤ 9) : ∃ M1, f_X12_pointsBy M (iI l) (iI p) (iI t) (iI h) (iI a) = some (iI (ma_pt s T V l p h a t), M1) ∧ iv_ag M M1 := by
  obtain ⟨f1, f2, f3, f4, f5, f6, f7, f8, -⟩ := W.2.1
  have hp8 : p < 8 := by omega
  have o := W.1.1 p hp8
  unfold ma_one at o
  have hc := f5 p hp
  by_cases hl1 : l = -1
  · subst hl1
    refine ⟨M, ?_, iv_ag.rf⟩
    unfold f_X12_pointsBy ma_pt
    rcases (by omega : a = 0 ∨ a = 1) with c3 | c3 <;> subst c3 <;> simp (disch := omega) only [qn0, qn1, qn2, qn3, qn4, qn5, qn6, qn7, qn8, qn9, qn10, qn11, qn12, qn13, qn14, qn15, qn16, qn17, qn18, qn24, qn30, qn31, qn32, qn33, qn36, qn38, qn40, qn41, qn42, qn43, qn45, qn47, qn48, qn49, qn50, qn51, qn52, qn53, qn57, qn58, qn59, qn60, qn61, qn62, qn63, qn91, qn93, qn97, qn99, qn100, qn103, qn104, qn112, qn113, qn115, qn116, qn118, qn119, qn121, qn124, qn173, qn177, qn240, qn255, qn295, qn352, qn353, qn533, qn999, qn1000, qn1023, qn6561, qn10000, qn20787, qn1000000, qn252645135, qn858993459, qn1000000000, qn1431655765, q_s1, q_s2, q_s3, q_s4, q_s5, iI_add, iI_sub, iI_mul, iI_neg, q_lt, q_le, q_eq, qz0, qz1, qz2, qz3, if_pos, if_neg, reduceIte]
  · obtain ⟨k, rfl⟩ : ∃ k : Nat, l = k := ⟨l.toNat, by omega⟩
    obtain ⟨M1, a1, a2, b0, b1, b2, b3, b4, b5⟩ := m_lay C hp hp8 (iI (s (6 * p))) (iI t) (iI h) (iI a)
    have hin : ma_in (s (6 * p)) (T 2 (5 * p + 1)) (s (6 * p + 1)) t h a := by unfold ma_in; omega
    obtain ⟨M2, d1, d3, d2⟩ := C.ll (k := k) (by omega) 118 (s (6 * p)) (T 2 (5 * p + 1)) (s (6 * p + 1)) t h a (Or.inr rfl) hin M1 (fun i _ _ => by rw [a2 149 (by decide)]) b0 b1 b2 b3 b4 b5
    have hv := W.2.2 k 118 (s (6 * p)) (T 2 (5 * p + 1)) (s (6 * p + 1)) t h a (by omega) (Or.inr rfl) hin
    have e7 : gs_rd M1 150 4 (iI k) = some (M 150 k) := by
      rw [q_rdn k rfl (by omega) (by decide), a2 150 (by decide)]
    refine ⟨M2, ?_, (ma_ag151 a2).tr d2⟩
    unfold f_X12_pointsBy ma_pt
    rw [if_neg hl1, Int.toNat_natCast]
    simp (disch := omega) only [qn0, qn1, qn2, qn3, qn4, qn5, qn6, qn7, qn8, qn9, qn10, qn11, qn12, qn13, qn14, qn15, qn16, qn17, qn18, qn24, qn30, qn31, qn32, qn33, qn36, qn38, qn40, qn41, qn42, qn43, qn45, qn47, qn48, qn49, qn50, qn51, qn52, qn53, qn57, qn58, qn59, qn60, qn61, qn62, qn63, qn91, qn93, qn97, qn99, qn100, qn103, qn104, qn112, qn113, qn115, qn116, qn118, qn119, qn121, qn124, qn173, qn177, qn240, qn255, qn295, qn352, qn353, qn533, qn999, qn1000, qn1023, qn6561, qn10000, qn20787, qn1000000, qn252645135, qn858993459, qn1000000000, qn1431655765, q_s1, q_s2, q_s3, q_s4, q_s5, iI_add, iI_sub, iI_mul, iI_neg, q_lt, q_le, q_eq, qz0, qz1, qz2, qz3, if_pos, if_neg, reduceIte, m_of0 C.st hp8, a1, e7, d1, d3, q_cl4]
theorem c_books {c : Nat → Int32} (hc : M 10 = c) (h : ma_sC s c) : f_X6_books M = some (iI (s 51)) := by
  unfold f_X6_books
  rw [qn51, q_rdn (z := 51) 51 rfl (by decide) (by decide), gs_s1, hc, h.2.1]
theorem c_bookAt (h : ma_sC s (M 10)) (w : ma_ws s) {i : Nat} (hi : (i : Int) < s 51) : f_X6_bookAt M (iI i) = some (iI (ma_bk s i)) := by
  have := w.2.2.1
  unfold f_X6_bookAt
  rw [qn53, iI_add, q_rdn (53 + i) (by omega) (by omega) (by decide), gs_s1, h.2.2.2.1 i hi]
theorem ma_bk_b (w : ma_ws s) {i : Nat} (hi : (i : Int) < s 51) : 0 ≤ ma_bk s i ∧ ma_bk s i < 2147483648 := by
  have h := w.2.2.2.2.1 i hi
  unfold ma_pg at h
  unfold ma_bk
  omega
theorem c_unp (w : ma_ws s) {i : Nat} (hi : (i : Int) < s 51) : f_X6_nightOf (iI (ma_bk s i)) = some (iI (s (52 + 5 * i))) ∧ f_X6_hourOf (iI (ma_bk s i)) = some (iI (s (53 + 5 * i))) ∧ f_X6_personOf (iI (ma_bk s i)) = some (iI (s (54 + 5 * i))) ∧ f_X6_lampOf (iI (ma_bk s i)) = some (iI (s (55 + 5 * i))) ∧ f_X6_tiredOf (iI (ma_bk s i)) = some (iI (s (56 + 5 * i))) := by
  have hb := ma_bk_b w hi
  have h := w.2.2.2.2.1 i hi
  unfold ma_pg at h
  have e : ma_bk s i = s (52 + 5 * i) + 1024 * s (53 + 5 * i) + 16384 * s (54 + 5 * i) + 131072 * s (55 + 5 * i) + 262144 * s (56 + 5 * i) := rfl
  refine ⟨?_, ?_, ?_, ?_, ?_⟩
  · unfold f_X6_nightOf
    rw [qn1023, q_an1023 hb]
    congr 2; omega
  · unfold f_X6_hourOf
    rw [qn10, qn31, qn15, q_sr10 hb, q_an15 (by omega)]
    congr 2; omega
  · unfold f_X6_personOf
    rw [qn14, qn31, qn7, q_sr14 hb, q_an7 (by omega)]
    congr 2; omega
  · unfold f_X6_lampOf
    rw [qn17, qn31, qn1, q_sr17 hb, q_an1 (by omega)]
    congr 2; omega
  · unfold f_X6_tiredOf
    rw [qn18, qn31, qn15, q_sr18 hb, q_an15 (by omega)]
    congr 2; omega
theorem m_bk (h : ma_sM s (M 158)) : gs_rd M 158 533 (iI 51) = some (iI (s 51)) := by
  rw [q_rdn (z := 51) 51 rfl (by decide) (by decide), h 51 (by decide)]
theorem m_page {w : Nat} (h : ma_sM s (M 158)) {i : Nat} (hi : i < 60) (hw : w < 5) : f_X12_page M (iI i) (iI w) = some (iI (s (52 + w + 5 * i))) := by
  unfold f_X12_page
  rw [qn52, qn5, iI_mul, iI_add, iI_add, q_rdn (52 + w + 5 * i) (by omega) (by omega) (by decide), gs_s1, h _ (by omega)]
theorem m_page0 (h : ma_sM s (M 158)) {i : Nat} (hi : i < 60) : f_X12_page M (iI i) (iI 0) = some (iI (s (52 + 5 * i))) := m_page (w := 0) h hi (by decide)
theorem m_page1 (h : ma_sM s (M 158)) {i : Nat} (hi : i < 60) : f_X12_page M (iI i) (iI 1) = some (iI (s (53 + 5 * i))) := m_page (w := 1) h hi (by decide)
theorem m_page2 (h : ma_sM s (M 158)) {i : Nat} (hi : i < 60) : f_X12_page M (iI i) (iI 2) = some (iI (s (54 + 5 * i))) := m_page (w := 2) h hi (by decide)
theorem m_page3 (h : ma_sM s (M 158)) {i : Nat} (hi : i < 60) : f_X12_page M (iI i) (iI 3) = some (iI (s (55 + 5 * i))) := m_page (w := 3) h hi (by decide)
theorem m_page4 (h : ma_sM s (M 158)) {i : Nat} (hi : i < 60) : f_X12_page M (iI i) (iI 4) = some (iI (s (56 + 5 * i))) := m_page (w := 4) h hi (by decide)
theorem c_case (W : ma_W s T V) (C : ma_C s T V M) {p : Nat} (hp : (p : Int) < T 3 0) {l : Int} (hl : -1 ≤ l ∧ l < T 3 4) : ∃ M1, f_X4_caseOf M (iI p) (iI l) = some (iI (ma_cs s T V l p), M1) ∧ iv_ag M M1 := by
  have w51 := W.1.2.2.1
  have f1 := W.2.1.1
  obtain ⟨r, e, h1, h2⟩ := ma_up0 (fun f i (q : Int32 × gs_M) => l_X4_caseOf_5 (iI p) (iI l) f q.1 i q.2) (s 51).toNat
    (fun i q => q.1 = iI (ma_sm i (ma_cf s T V l p)) ∧ iv_ag M q.2)
    (fun r => r.1 = iI (ma_cs s T V l p) ∧ iv_ag M r.2.2) (iI 0, M) (by omega) ⟨rfl, iv_ag.rf⟩
    (by
      rintro f i ⟨a, N⟩ hi ⟨h1, h2⟩
      left
      simp only at h1 h2
      subst h1
      have CN := C.ag W.2.1 h2
      have hi5 : (i : Int) < s 51 := by omega
      obtain ⟨-, u1, u2, u3, u4⟩ := c_unp W.1 hi5
      have hb := W.1.2.2.2.2.1 i hi5
      unfold ma_pg at hb
      have e1 := c_books rfl CN.st
      have e2 := c_bookAt CN.st W.1 hi5
      by_cases c : s (54 + 5 * i) = p
      · obtain ⟨N1, e3, g3⟩ := c_pt W CN hp hl (h := s (53 + 5 * i)) (a := s (55 + 5 * i)) (t := s (56 + 5 * i)) (by omega) (by omega) (by omega)
        refine ⟨(iI (ma_sm (i + 1) (ma_cf s T V l p)), N1), ?_, rfl, h2.tr g3⟩
        simp only [l_X4_caseOf_5]
        simp (disch := omega) only [qn0, qn1, qn2, qn3, qn4, qn5, qn6, qn7, qn8, qn9, qn10, qn11, qn12, qn13, qn14, qn15, qn16, qn17, qn18, qn24, qn30, qn31, qn32, qn33, qn36, qn38, qn40, qn41, qn42, qn43, qn45, qn47, qn48, qn49, qn50, qn51, qn52, qn53, qn57, qn58, qn59, qn60, qn61, qn62, qn63, qn91, qn93, qn97, qn99, qn100, qn103, qn104, qn112, qn113, qn115, qn116, qn118, qn119, qn121, qn124, qn173, qn177, qn240, qn255, qn295, qn352, qn353, qn533, qn999, qn1000, qn1023, qn6561, qn10000, qn20787, qn1000000, qn252645135, qn858993459, qn1000000000, qn1431655765, q_s1, q_s2, q_s3, q_s4, q_s5, iI_add, iI_sub, iI_mul, iI_neg, q_lt, q_le, q_eq, qz0, qz1, qz2, qz3, if_pos, if_neg, reduceIte, e1, e2, u1, u2, u3, u4, e3, ma_sm, ma_cf, Int.add_zero]
      · refine ⟨(iI (ma_sm (i + 1) (ma_cf s T V l p)), N), ?_, rfl, h2⟩
        simp only [l_X4_caseOf_5]
        simp (disch := omega) only [qn0, qn1, qn2, qn3, qn4, qn5, qn6, qn7, qn8, qn9, qn10, qn11, qn12, qn13, qn14, qn15, qn16, qn17, qn18, qn24, qn30, qn31, qn32, qn33, qn36, qn38, qn40, qn41, qn42, qn43, qn45, qn47, qn48, qn49, qn50, qn51, qn52, qn53, qn57, qn58, qn59, qn60, qn61, qn62, qn63, qn91, qn93, qn97, qn99, qn100, qn103, qn104, qn112, qn113, qn115, qn116, qn118, qn119, qn121, qn124, qn173, qn177, qn240, qn255, qn295, qn352, qn353, qn533, qn999, qn1000, qn1023, qn6561, qn10000, qn20787, qn1000000, qn252645135, qn858993459, qn1000000000, qn1431655765, q_s1, q_s2, q_s3, q_s4, q_s5, iI_add, iI_sub, iI_mul, iI_neg, q_lt, q_le, q_eq, qz0, qz1, qz2, qz3, if_pos, if_neg, reduceIte, e1, e2, u1, u2, u3, u4, ma_sm, ma_cf, Int.add_zero])
    (by
      rintro f ⟨a, N⟩ ⟨h1, h2⟩
      have CN := C.ag W.2.1 h2
      have e1 := c_books rfl CN.st
      refine ⟨(a, iI ((s 51).toNat : Nat), N), ?_, h1, h2⟩
      simp only [l_X4_caseOf_5]
      simp (disch := omega) only [qn0, qn1, qn2, qn3, qn4, qn5, qn6, qn7, qn8, qn9, qn10, qn11, qn12, qn13, qn14, qn15, qn16, qn17, qn18, qn24, qn30, qn31, qn32, qn33, qn36, qn38, qn40, qn41, qn42, qn43, qn45, qn47, qn48, qn49, qn50, qn51, qn52, qn53, qn57, qn58, qn59, qn60, qn61, qn62, qn63, qn91, qn93, qn97, qn99, qn100, qn103, qn104, qn112, qn113, qn115, qn116, qn118, qn119, qn121, qn124, qn173, qn177, qn240, qn255, qn295, qn352, qn353, qn533, qn999, qn1000, qn1023, qn6561, qn10000, qn20787, qn1000000, qn252645135, qn858993459, qn1000000000, qn1431655765, q_s1, q_s2, q_s3, q_s4, q_s5, iI_add, iI_sub, iI_mul, iI_neg, q_lt, q_le, q_eq, qz0, qz1, qz2, qz3, if_pos, if_neg, reduceIte, e1])
  refine ⟨r.2.2, ?_, h2⟩
  unfold f_X4_caseOf
  rw [qn0, show l_X4_caseOf_5 (iI p) (iI l) gs_FU (iI 0) (iI 0) M = some r from e]
  rw [← h1]
  rfl
theorem m_case (W : ma_W s T V) (C : ma_M s T V M) {p : Nat} (hp : (p : Int) < T 3 0) {l : Int} (hl : -1 ≤ l ∧ l < T 3 4) : ∃ M1, f_X12_caseBy M (iI l) (iI p) = some (iI (ma_cs s T V l p), M1) ∧ iv_ag M M1 := by
  have w51 := W.1.2.2.1
  have f1 := W.2.1.1
  obtain ⟨r, e, h1, h2⟩ := ma_up0 (fun f i (q : Int32 × gs_M) => l_X12_caseBy_5 (iI l) (iI p) f q.1 i q.2) (s 51).toNat
    (fun i q => q.1 = iI (ma_sm i (ma_cf s T V l p)) ∧ iv_ag M q.2)
    (fun r => r.1 = iI (ma_cs s T V l p) ∧ iv_ag M r.2.2) (iI 0, M) (by omega) ⟨rfl, iv_ag.rf⟩
    (by
      rintro f i ⟨a, N⟩ hi ⟨h1, h2⟩
      left
      simp only at h1 h2
      subst h1
      have CN := C.ag W.2.1 h2
      have hi5 : (i : Int) < s 51 := by omega
      have i60 : i < 60 := by omega
      have hb := W.1.2.2.2.2.1 i hi5
      unfold ma_pg at hb
      have e1 := m_bk CN.st
      by_cases c : s (54 + 5 * i) = p
      · obtain ⟨N1, e3, g3⟩ := m_pt W CN hp hl (h := s (53 + 5 * i)) (a := s (55 + 5 * i)) (t := s (56 + 5 * i)) (by omega) (by omega) (by omega)
        refine ⟨(iI (ma_sm (i + 1) (ma_cf s T V l p)), N1), ?_, rfl, h2.tr g3⟩
        simp only [l_X12_caseBy_5]
        simp (disch := omega) only [qn0, qn1, qn2, qn3, qn4, qn5, qn6, qn7, qn8, qn9, qn10, qn11, qn12, qn13, qn14, qn15, qn16, qn17, qn18, qn24, qn30, qn31, qn32, qn33, qn36, qn38, qn40, qn41, qn42, qn43, qn45, qn47, qn48, qn49, qn50, qn51, qn52, qn53, qn57, qn58, qn59, qn60, qn61, qn62, qn63, qn91, qn93, qn97, qn99, qn100, qn103, qn104, qn112, qn113, qn115, qn116, qn118, qn119, qn121, qn124, qn173, qn177, qn240, qn255, qn295, qn352, qn353, qn533, qn999, qn1000, qn1023, qn6561, qn10000, qn20787, qn1000000, qn252645135, qn858993459, qn1000000000, qn1431655765, q_s1, q_s2, q_s3, q_s4, q_s5, iI_add, iI_sub, iI_mul, iI_neg, q_lt, q_le, q_eq, qz0, qz1, qz2, qz3, if_pos, if_neg, reduceIte, e1, m_page1 CN.st i60, m_page2 CN.st i60, m_page3 CN.st i60, m_page4 CN.st i60, e3, ma_sm, ma_cf, Int.add_zero]
      · refine ⟨(iI (ma_sm (i + 1) (ma_cf s T V l p)), N), ?_, rfl, h2⟩
        simp only [l_X12_caseBy_5]
        simp (disch := omega) only [qn0, qn1, qn2, qn3, qn4, qn5, qn6, qn7, qn8, qn9, qn10, qn11, qn12, qn13, qn14, qn15, qn16, qn17, qn18, qn24, qn30, qn31, qn32, qn33, qn36, qn38, qn40, qn41, qn42, qn43, qn45, qn47, qn48, qn49, qn50, qn51, qn52, qn53, qn57, qn58, qn59, qn60, qn61, qn62, qn63, qn91, qn93, qn97, qn99, qn100, qn103, qn104, qn112, qn113, qn115, qn116, qn118, qn119, qn121, qn124, qn173, qn177, qn240, qn255, qn295, qn352, qn353, qn533, qn999, qn1000, qn1023, qn6561, qn10000, qn20787, qn1000000, qn252645135, qn858993459, qn1000000000, qn1431655765, q_s1, q_s2, q_s3, q_s4, q_s5, iI_add, iI_sub, iI_mul, iI_neg, q_lt, q_le, q_eq, qz0, qz1, qz2, qz3, if_pos, if_neg, reduceIte, e1, m_page2 CN.st i60, ma_sm, ma_cf, Int.add_zero])
    (by
      rintro f ⟨a, N⟩ ⟨h1, h2⟩
      have CN := C.ag W.2.1 h2
      have e1 := m_bk CN.st
      refine ⟨(a, iI ((s 51).toNat : Nat), N), ?_, h1, h2⟩
      simp only [l_X12_caseBy_5]
      simp (disch := omega) only [qn0, qn1, qn2, qn3, qn4, qn5, qn6, qn7, qn8, qn9, qn10, qn11, qn12, qn13, qn14, qn15, qn16, qn17, qn18, qn24, qn30, qn31, qn32, qn33, qn36, qn38, qn40, qn41, qn42, qn43, qn45, qn47, qn48, qn49, qn50, qn51, qn52, qn53, qn57, qn58, qn59, qn60, qn61, qn62, qn63, qn91, qn93, qn97, qn99, qn100, qn103, qn104, qn112, qn113, qn115, qn116, qn118, qn119, qn121, qn124, qn173, qn177, qn240, qn255, qn295, qn352, qn353, qn533, qn999, qn1000, qn1023, qn6561, qn10000, qn20787, qn1000000, qn252645135, qn858993459, qn1000000000, qn1431655765, q_s1, q_s2, q_s3, q_s4, q_s5, iI_add, iI_sub, iI_mul, iI_neg, q_lt, q_le, q_eq, qz0, qz1, qz2, qz3, if_pos, if_neg, reduceIte, e1])
  refine ⟨r.2.2, ?_, h2⟩
  unfold f_X12_caseBy
  rw [qn0, show l_X12_caseBy_5 (iI l) (iI p) gs_FU (iI 0) (iI 0) M = some r from e]
  rw [← h1]
  rfl
end Wakes
