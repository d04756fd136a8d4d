/-! operations that ask for CASES -/
def ma_wr (s : Nat → Int) (T : Nat → Nat → Int) (V : ma_V) (l : Int) (p : Nat) : Int := if 0 < ma_nb s p ∧ ((0 < s (6 * p)) ↔ (ma_cs s T V l p < T 1 1)) then 1 else 0
def ma_wy (s : Nat → Int) (T : Nat → Nat → Int) (V : ma_V) (l : Int) : Int := ma_sm (T 3 0).toNat (ma_wr s T V l)
/-- the sets of people -/
def ma_pi (s : Nat → Int) (T : Nat → Nat → Int) (V : ma_V) (x : Int) (p : Nat) : Prop := if x = 0 then s (6 * p + 5) = 0 else if x = 1 then s (6 * p) = 0 else T 1 1 ≤ ma_cs s T V (T 3 2) p
noncomputable def ma_pb (s : Nat → Int) (T : Nat → Nat → Int) (V : ma_V) (x : Int) : Nat → Int32
  | 0 => iI 0
  | i + 1 => ma_pb s T V x i ||| (@ite _ (ma_pi s T V x i) (Classical.propDecidable _) (iI 1 <<< (iI i &&& iI 31)) (iI 0))
theorem ma_pb_y {s : Nat → Int} {T : Nat → Nat → Int} {V : ma_V} {x : Int} {i : Nat} (h : ma_pi s T V x i) : ma_pb s T V x (i + 1) = ma_pb s T V x i ||| (iI 1 <<< (iI i &&& iI 31)) := by
  simp only [ma_pb]
  rw [if_pos h]
theorem ma_pb_n {s : Nat → Int} {T : Nat → Nat → Int} {V : ma_V} {x : Int} {i : Nat} (h : ¬ ma_pi s T V x i) : ma_pb s T V x (i + 1) = ma_pb s T V x i ||| iI 0 := by
  simp only [ma_pb]
  rw [if_neg h]
section Ops2
variable {s : Nat → Int} {T : Nat → Nat → Int} {V : ma_V} {M : gs_M}
theorem c_nb (w : ma_ws s) (C : ma_sC s (M 10)) {p : Nat} (hp : p < 8) : f_X6_booksOf M (iI p) = some (iI (ma_nb s p)) := by
  have e := c_nb_l w C hp
  have z : iI (ma_sm 0 (ma_nf s p)) = iI 0 := rfl
  rw [z] at e
  unfold f_X6_booksOf
  simp only [qn0, qn1, qn2, qn3, qn4, qn5, qn6, qn7, qn8, qn9, qn10, qn11, qn12, qn13, qn14, qn15, qn16, qn17, qn18, qn24, qn30, qn31, qn32, qn33, qn36, qn38, qn40, qn41, qn42, qn43, qn45, qn47, qn48, qn49, qn50, qn51, qn52, qn53, qn57, qn58, qn59, qn60, qn61, qn62, qn63, qn91, qn93, qn97, qn99, qn100, qn103, qn104, qn112, qn113, qn115, qn116, qn118, qn119, qn121, qn124, qn173, qn177, qn240, qn255, qn295, qn352, qn353, qn533, qn999, qn1000, qn1023, qn6561, qn10000, qn20787, qn1000000, qn252645135, qn858993459, qn1000000000, qn1431655765, q_s1, q_s2, q_s3, q_s4, q_s5, iI_add, iI_sub, iI_mul, iI_neg, q_lt, q_le, q_eq, qz0, qz1, qz2, qz3, if_pos, if_neg, reduceIte, e]
  rfl
theorem m_nb (w : ma_ws s) (D : ma_sM s (M 158)) {p : Nat} (hp : p < 8) : f_X12_pagesOf M (iI p) = some (iI (ma_nb s p)) := by
  have e := m_nb_l w D hp
  have z : iI (ma_sm 0 (ma_nf s p)) = iI 0 := rfl
  rw [z] at e
  unfold f_X12_pagesOf
  simp only [qn0, qn1, qn2, qn3, qn4, qn5, qn6, qn7, qn8, qn9, qn10, qn11, qn12, qn13, qn14, qn15, qn16, qn17, qn18, qn24, qn30, qn31, qn32, qn33, qn36, qn38, qn40, qn41, qn42, qn43, qn45, qn47, qn48, qn49, qn50, qn51, qn52, qn53, qn57, qn58, qn59, qn60, qn61, qn62, qn63, qn91, qn93, qn97, qn99, qn100, qn103, qn104, qn112, qn113, qn115, qn116, qn118, qn119, qn121, qn124, qn173, qn177, qn240, qn255, qn295, qn352, qn353, qn533, qn999, qn1000, qn1023, qn6561, qn10000, qn20787, qn1000000, qn252645135, qn858993459, qn1000000000, qn1431655765, q_s1, q_s2, q_s3, q_s4, q_s5, iI_add, iI_sub, iI_mul, iI_neg, q_lt, q_le, q_eq, qz0, qz1, qz2, qz3, if_pos, if_neg, reduceIte, e]
  rfl
theorem c_wbg (W : ma_W s T V) (C : ma_C s T V M) {p : Nat} (hp : (p : Int) < T 3 0) {l : Int} (hl : -1 ≤ l ∧ l < T 3 4) : ∃ M1, f_X11_wouldBeGuilty M (iI p) (iI l) = some (if ma_cs s T V l p < T 1 1 then iI 0 else iI 1, M1) ∧ iv_ag M M1 := by
  obtain ⟨f1, f2, f3, -⟩ := W.2.1
  have b := ma_cs_b W.1 T V l p
  obtain ⟨M1, e, g⟩ := c_case W C hp hl
  have e2 := c_ruled1 (C.ag W.2.1 g)
  refine ⟨M1, ?_, g⟩
  unfold f_X11_wouldBeGuilty
  simp (disch := omega) only [qn0, qn1, qn2, qn3, qn4, qn5, qn6, qn7, qn8, qn9, qn10, qn11, qn12, qn13, qn14, qn15, qn16, qn17, qn18, qn24, qn30, qn31, qn32, qn33, qn36, qn38, qn40, qn41, qn42, qn43, qn45, qn47, qn48, qn49, qn50, qn51, qn52, qn53, qn57, qn58, qn59, qn60, qn61, qn62, qn63, qn91, qn93, qn97, qn99, qn100, qn103, qn104, qn112, qn113, qn115, qn116, qn118, qn119, qn121, qn124, qn173, qn177, qn240, qn255, qn295, qn352, qn353, qn533, qn999, qn1000, qn1023, qn6561, qn10000, qn20787, qn1000000, qn252645135, qn858993459, qn1000000000, qn1431655765, q_s1, q_s2, q_s3, q_s4, q_s5, iI_add, iI_sub, iI_mul, iI_neg, q_lt, q_le, q_eq, qz0, qz1, qz2, qz3, if_pos, if_neg, reduceIte, e, e2]
theorem c_wr_l (W : ma_W s T V) (C : ma_C s T V M) {l : Int} (hl : -1 ≤ l ∧ l < T 3 4) : ∃ M1, l_X11_wrongedBy_4 (iI l) gs_FU (iI (ma_sm 0 (ma_wr s T V l))) (iI 0) M = some (iI (ma_sm (T 3 0).toNat (ma_wr s T V l)), iI ((T 3 0).toNat : Nat), M1) ∧ iv_ag M M1 := by
  obtain ⟨f1, f2, f3, -⟩ := W.2.1
  obtain ⟨r, e, hr⟩ := ma_up0 (fun f i (q9 : Int32 × gs_M) => l_X11_wrongedBy_4 (iI l) f q9.1 i q9.2) ((T 3 0).toNat)
    (fun i q9 => q9.1 = iI (ma_sm i (ma_wr s T V l)) ∧ iv_ag M q9.2)
    (fun r => ∃ M1, r = (iI (ma_sm (T 3 0).toNat (ma_wr s T V l)), iI ((T 3 0).toNat : Nat), M1) ∧ iv_ag M M1) (iI (ma_sm 0 (ma_wr s T V l)), M) (by omega)
    ⟨rfl, iv_ag.rf⟩
    (by
      rintro f i ⟨a0, N⟩ hi ⟨ha, hM⟩
      left
      simp only at ha hM
      subst ha
      have CN := C.ag W.2.1 hM
      have i8 : i < 8 := by omega
      have o := W.1.1 i i8
      unfold ma_one at o
      have e0 := c_crowd CN
      have e1 := c_of0 CN.st i8
      have e2 := c_nb W.1 CN.st i8
      have b1 := ma_nb_b W.1 i
      have b2 := ma_cs_b W.1 T V l i
      obtain ⟨N1, e3, gM⟩ := c_wbg W CN (p := i) (by omega) hl
      rcases (by omega : ma_nb s i ≤ 0 ∨ (0 < ma_nb s i ∧ 0 < s (6 * i) ∧ ma_cs s T V l i < T 1 1) ∨ (0 < ma_nb s i ∧ 0 < s (6 * i) ∧ T 1 1 ≤ ma_cs s T V l i) ∨ (0 < ma_nb s i ∧ s (6 * i) ≤ 0 ∧ ma_cs s T V l i < T 1 1) ∨ (0 < ma_nb s i ∧ s (6 * i) ≤ 0 ∧ T 1 1 ≤ ma_cs s T V l i)) with c | c | c | c | c
      · have d : ma_wr s T V l i = 0 := by
          unfold ma_wr
          rw [if_neg (by omega)]
        refine ⟨(iI (ma_sm (i + 1) (ma_wr s T V l)), N), ?_, rfl, hM⟩
        simp only [l_X11_wrongedBy_4]
        simp (disch := omega) only [qn0, qn1, qn2, qn3, qn4, qn5, qn6, qn7, qn8, qn9, qn10, qn11, qn12, qn13, qn14, qn15, qn16, qn17, qn18, qn24, qn30, qn31, qn32, qn33, qn36, qn38, qn40, qn41, qn42, qn43, qn45, qn47, qn48, qn49, qn50, qn51, qn52, qn53, qn57, qn58, qn59, qn60, qn61, qn62, qn63, qn91, qn93, qn97, qn99, qn100, qn103, qn104, qn112, qn113, qn115, qn116, qn118, qn119, qn121, qn124, qn173, qn177, qn240, qn255, qn295, qn352, qn353, qn533, qn999, qn1000, qn1023, qn6561, qn10000, qn20787, qn1000000, qn252645135, qn858993459, qn1000000000, qn1431655765, q_s1, q_s2, q_s3, q_s4, q_s5, iI_add, iI_sub, iI_mul, iI_neg, q_lt, q_le, q_eq, qz0, qz1, qz2, qz3, if_pos, if_neg, reduceIte, e0, e1, e2, d, Int.add_zero, ma_sm]
      · have d : ma_wr s T V l i = 1 := by
          unfold ma_wr
          rw [if_pos (by omega)]
        refine ⟨(iI (ma_sm (i + 1) (ma_wr s T V l)), N1), ?_, rfl, hM.tr gM⟩
        simp only [l_X11_wrongedBy_4]
        simp (disch := omega) only [qn0, qn1, qn2, qn3, qn4, qn5, qn6, qn7, qn8, qn9, qn10, qn11, qn12, qn13, qn14, qn15, qn16, qn17, qn18, qn24, qn30, qn31, qn32, qn33, qn36, qn38, qn40, qn41, qn42, qn43, qn45, qn47, qn48, qn49, qn50, qn51, qn52, qn53, qn57, qn58, qn59, qn60, qn61, qn62, qn63, qn91, qn93, qn97, qn99, qn100, qn103, qn104, qn112, qn113, qn115, qn116, qn118, qn119, qn121, qn124, qn173, qn177, qn240, qn255, qn295, qn352, qn353, qn533, qn999, qn1000, qn1023, qn6561, qn10000, qn20787, qn1000000, qn252645135, qn858993459, qn1000000000, qn1431655765, q_s1, q_s2, q_s3, q_s4, q_s5, iI_add, iI_sub, iI_mul, iI_neg, q_lt, q_le, q_eq, qz0, qz1, qz2, qz3, if_pos, if_neg, reduceIte, e0, e1, e2, e3, d, Int.add_zero, ma_sm]
      · have d : ma_wr s T V l i = 0 := by
          unfold ma_wr
          rw [if_neg (by omega)]
        refine ⟨(iI (ma_sm (i + 1) (ma_wr s T V l)), N1), ?_, rfl, hM.tr gM⟩
        simp only [l_X11_wrongedBy_4]
        simp (disch := omega) only [qn0, qn1, qn2, qn3, qn4, qn5, qn6, qn7, qn8, qn9, qn10, qn11, qn12, qn13, qn14, qn15, qn16, qn17, qn18, qn24, qn30, qn31, qn32, qn33, qn36, qn38, qn40, qn41, qn42, qn43, qn45, qn47, qn48, qn49, qn50, qn51, qn52, qn53, qn57, qn58, qn59, qn60, qn61, qn62, qn63, qn91, qn93, qn97, qn99, qn100, qn103, qn104, qn112, qn113, qn115, qn116, qn118, qn119, qn121, qn124, qn173, qn177, qn240, qn255, qn295, qn352, qn353, qn533, qn999, qn1000, qn1023, qn6561, qn10000, qn20787, qn1000000, qn252645135, qn858993459, qn1000000000, qn1431655765, q_s1, q_s2, q_s3, q_s4, q_s5, iI_add, iI_sub, iI_mul, iI_neg, q_lt, q_le, q_eq, qz0, qz1, qz2, qz3, if_pos, if_neg, reduceIte, e0, e1, e2, e3, d, Int.add_zero, ma_sm]
      · have d : ma_wr s T V l i = 0 := by
          unfold ma_wr
          rw [if_neg (by omega)]
        refine ⟨(iI (ma_sm (i + 1) (ma_wr s T V l)), N1), ?_, rfl, hM.tr gM⟩
        simp only [l_X11_wrongedBy_4]
        simp (disch := omega) only [qn0, qn1, qn2, qn3, qn4, qn5, qn6, qn7, qn8, qn9, qn10, qn11, qn12, qn13, qn14, qn15, qn16, qn17, qn18, qn24, qn30, qn31, qn32, qn33, qn36, qn38, qn40, qn41, qn42, qn43, qn45, qn47, qn48, qn49, qn50, qn51, qn52, qn53, qn57, qn58, qn59, qn60, qn61, qn62, qn63, qn91, qn93, qn97, qn99, qn100, qn103, qn104, qn112, qn113, qn115, qn116, qn118, qn119, qn121, qn124, qn173, qn177, qn240, qn255, qn295, qn352, qn353, qn533, qn999, qn1000, qn1023, qn6561, qn10000, qn20787, qn1000000, qn252645135, qn858993459, qn1000000000, qn1431655765, q_s1, q_s2, q_s3, q_s4, q_s5, iI_add, iI_sub, iI_mul, iI_neg, q_lt, q_le, q_eq, qz0, qz1, qz2, qz3, if_pos, if_neg, reduceIte, e0, e1, e2, e3, d, Int.add_zero, ma_sm]
      · have d : ma_wr s T V l i = 1 := by
          unfold ma_wr
          rw [if_pos (by omega)]
        refine ⟨(iI (ma_sm (i + 1) (ma_wr s T V l)), N1), ?_, rfl, hM.tr gM⟩
        simp only [l_X11_wrongedBy_4]
        simp (disch := omega) only [qn0, qn1, qn2, qn3, qn4, qn5, qn6, qn7, qn8, qn9, qn10, qn11, qn12, qn13, qn14, qn15, qn16, qn17, qn18, qn24, qn30, qn31, qn32, qn33, qn36, qn38, qn40, qn41, qn42, qn43, qn45, qn47, qn48, qn49, qn50, qn51, qn52, qn53, qn57, qn58, qn59, qn60, qn61, qn62, qn63, qn91, qn93, qn97, qn99, qn100, qn103, qn104, qn112, qn113, qn115, qn116, qn118, qn119, qn121, qn124, qn173, qn177, qn240, qn255, qn295, qn352, qn353, qn533, qn999, qn1000, qn1023, qn6561, qn10000, qn20787, qn1000000, qn252645135, qn858993459, qn1000000000, qn1431655765, q_s1, q_s2, q_s3, q_s4, q_s5, iI_add, iI_sub, iI_mul, iI_neg, q_lt, q_le, q_eq, qz0, qz1, qz2, qz3, if_pos, if_neg, reduceIte, e0, e1, e2, e3, d, Int.add_zero, ma_sm])
    (by
      rintro f ⟨a0, N⟩ ⟨ha, hM⟩
      simp only at ha hM
      subst ha
      have CN := C.ag W.2.1 hM
      refine ⟨(iI (ma_sm (T 3 0).toNat (ma_wr s T V l)), iI ((T 3 0).toNat : Nat), N), ?_, N, rfl, hM⟩
      simp only [l_X11_wrongedBy_4]
      simp (disch := omega) only [qn0, qn1, qn2, qn3, qn4, qn5, qn6, qn7, qn8, qn9, qn10, qn11, qn12, qn13, qn14, qn15, qn16, qn17, qn18, qn24, qn30, qn31, qn32, qn33, qn36, qn38, qn40, qn41, qn42, qn43, qn45, qn47, qn48, qn49, qn50, qn51, qn52, qn53, qn57, qn58, qn59, qn60, qn61, qn62, qn63, qn91, qn93, qn97, qn99, qn100, qn103, qn104, qn112, qn113, qn115, qn116, qn118, qn119, qn121, qn124, qn173, qn177, qn240, qn255, qn295, qn352, qn353, qn533, qn999, qn1000, qn1023, qn6561, qn10000, qn20787, qn1000000, qn252645135, qn858993459, qn1000000000, qn1431655765, q_s1, q_s2, q_s3, q_s4, q_s5, iI_add, iI_sub, iI_mul, iI_neg, q_lt, q_le, q_eq, qz0, qz1, qz2, qz3, if_pos, if_neg, reduceIte, c_crowd CN])
  obtain ⟨M1, rfl, g⟩ := hr
  exact ⟨M1, e, g⟩
theorem m_wr_l (W : ma_W s T V) (D : ma_M s T V M) {l : Int} (hl : -1 ≤ l ∧ l < T 3 4) : ∃ M1, l_X12_wrongBy_4 (iI l) gs_FU (iI (ma_sm 0 (ma_wr s T V l))) (iI 0) M = some (iI (ma_sm (T 3 0).toNat (ma_wr s T V l)), iI ((T 3 0).toNat : Nat), M1) ∧ iv_ag M M1 := by
  obtain ⟨f1, f2, f3, -⟩ := W.2.1
  obtain ⟨r, e, hr⟩ := ma_up0 (fun f i (q9 : Int32 × gs_M) => l_X12_wrongBy_4 (iI l) f q9.1 i q9.2) ((T 3 0).toNat)
    (fun i q9 => q9.1 = iI (ma_sm i (ma_wr s T V l)) ∧ iv_ag M q9.2)
    (fun r => ∃ M1, r = (iI (ma_sm (T 3 0).toNat (ma_wr s T V l)), iI ((T 3 0).toNat : Nat), M1) ∧ iv_ag M M1) (iI (ma_sm 0 (ma_wr s T V l)), M) (by omega)
    ⟨rfl, iv_ag.rf⟩
    (by
      rintro f i ⟨a0, N⟩ hi ⟨ha, hM⟩
      left
      simp only at ha hM
      subst ha
      have CN := D.ag W.2.1 hM
      have i8 : i < 8 := by omega
      have o := W.1.1 i i8
      unfold ma_one at o
      have e0 := CN.fo
      have e1 := m_of0 CN.st i8
      have e2 := m_nb W.1 CN.st i8
      have b1 := ma_nb_b W.1 i
      have b2 := ma_cs_b W.1 T V l i
      obtain ⟨N1, e3, gM⟩ := m_case W CN (p := i) (by omega) hl
      have e4 := m_rule1 (CN.ag W.2.1 gM)
      rcases (by omega : ma_nb s i ≤ 0 ∨ (0 < ma_nb s i ∧ 0 < s (6 * i) ∧ ma_cs s T V l i < T 1 1) ∨ (0 < ma_nb s i ∧ 0 < s (6 * i) ∧ T 1 1 ≤ ma_cs s T V l i) ∨ (0 < ma_nb s i ∧ s (6 * i) ≤ 0 ∧ ma_cs s T V l i < T 1 1) ∨ (0 < ma_nb s i ∧ s (6 * i) ≤ 0 ∧ T 1 1 ≤ ma_cs s T V l i)) with c | c | c | c | c
      · have d : ma_wr s T V l i = 0 := by
          unfold ma_wr
          rw [if_neg (by omega)]
        refine ⟨(iI (ma_sm (i + 1) (ma_wr s T V l)), N), ?_, rfl, hM⟩
        simp only [l_X12_wrongBy_4]
        simp (disch := omega) only [qn0, qn1, qn2, qn3, qn4, qn5, qn6, qn7, qn8, qn9, qn10, qn11, qn12, qn13, qn14, qn15, qn16, qn17, qn18, qn24, qn30, qn31, qn32, qn33, qn36, qn38, qn40, qn41, qn42, qn43, qn45, qn47, qn48, qn49, qn50, qn51, qn52, qn53, qn57, qn58, qn59, qn60, qn61, qn62, qn63, qn91, qn93, qn97, qn99, qn100, qn103, qn104, qn112, qn113, qn115, qn116, qn118, qn119, qn121, qn124, qn173, qn177, qn240, qn255, qn295, qn352, qn353, qn533, qn999, qn1000, qn1023, qn6561, qn10000, qn20787, qn1000000, qn252645135, qn858993459, qn1000000000, qn1431655765, q_s1, q_s2, q_s3, q_s4, q_s5, iI_add, iI_sub, iI_mul, iI_neg, q_lt, q_le, q_eq, qz0, qz1, qz2, qz3, if_pos, if_neg, reduceIte, e0, e1, e2, d, Int.add_zero, ma_sm]
      · have d : ma_wr s T V l i = 1 := by
          unfold ma_wr
          rw [if_pos (by omega)]
        refine ⟨(iI (ma_sm (i + 1) (ma_wr s T V l)), N1), ?_, rfl, hM.tr gM⟩
        simp only [l_X12_wrongBy_4]
        simp (disch := omega) only [qn0, qn1, qn2, qn3, qn4, qn5, qn6, qn7, qn8, qn9, qn10, qn11, qn12, qn13, qn14, qn15, qn16, qn17, qn18, qn24, qn30, qn31, qn32, qn33, qn36, qn38, qn40, qn41, qn42, qn43, qn45, qn47, qn48, qn49, qn50, qn51, qn52, qn53, qn57, qn58, qn59, qn60, qn61, qn62, qn63, qn91, qn93, qn97, qn99, qn100, qn103, qn104, qn112, qn113, qn115, qn116, qn118, qn119, qn121, qn124, qn173, qn177, qn240, qn255, qn295, qn352, qn353, qn533, qn999, qn1000, qn1023, qn6561, qn10000, qn20787, qn1000000, qn252645135, qn858993459, qn1000000000, qn1431655765, q_s1, q_s2, q_s3, q_s4, q_s5, iI_add, iI_sub, iI_mul, iI_neg, q_lt, q_le, q_eq, qz0, qz1, qz2, qz3, if_pos, if_neg, reduceIte, e0, e1, e2, e3, e4, d, Int.add_zero, ma_sm]
      · have d : ma_wr s T V l i = 0 := by
          unfold ma_wr
          rw [if_neg (by omega)]
        refine ⟨(iI (ma_sm (i + 1) (ma_wr s T V l)), N1), ?_, rfl, hM.tr gM⟩
        simp only [l_X12_wrongBy_4]
        simp (disch := omega) only [qn0, qn1, qn2, qn3, qn4, qn5, qn6, qn7, qn8, qn9, qn10, qn11, qn12, qn13, qn14, qn15, qn16, qn17, qn18, qn24, qn30, qn31, qn32, qn33, qn36, qn38, qn40, qn41, qn42, qn43, qn45, qn47, qn48, qn49, qn50, qn51, qn52, qn53, qn57, qn58, qn59, qn60, qn61, qn62, qn63, qn91, qn93, qn97, qn99, qn100, qn103, qn104, qn112, qn113, qn115, qn116, qn118, qn119, qn121, qn124, qn173, qn177, qn240, qn255, qn295, qn352, qn353, qn533, qn999, qn1000, qn1023, qn6561, qn10000, qn20787, qn1000000, qn252645135, qn858993459, qn1000000000, qn1431655765, q_s1, q_s2, q_s3, q_s4, q_s5, iI_add, iI_sub, iI_mul, iI_neg, q_lt, q_le, q_eq, qz0, qz1, qz2, qz3, if_pos, if_neg, reduceIte, e0, e1, e2, e3, e4, d, Int.add_zero, ma_sm]
      · have d : ma_wr s T V l i = 0 := by
          unfold ma_wr
          rw [if_neg (by omega)]
        refine ⟨(iI (ma_sm (i + 1) (ma_wr s T V l)), N1), ?_, rfl, hM.tr gM⟩
        simp only [l_X12_wrongBy_4]
        simp (disch := omega) only [qn0, qn1, qn2, qn3, qn4, qn5, qn6, qn7, qn8, qn9, qn10, qn11, qn12, qn13, qn14, qn15, qn16, qn17, qn18, qn24, qn30, qn31, qn32, qn33, qn36, qn38, qn40, qn41, qn42, qn43, qn45, qn47, qn48, qn49, qn50, qn51, qn52, qn53, qn57, qn58, qn59, qn60, qn61, qn62, qn63, qn91, qn93, qn97, qn99, qn100, qn103, qn104, qn112, qn113, qn115, qn116, qn118, qn119, qn121, qn124, qn173, qn177, qn240, qn255, qn295, qn352, qn353, qn533, qn999, qn1000, qn1023, qn6561, qn10000, qn20787, qn1000000, qn252645135, qn858993459, qn1000000000, qn1431655765, q_s1, q_s2, q_s3, q_s4, q_s5, iI_add, iI_sub, iI_mul, iI_neg, q_lt, q_le, q_eq, qz0, qz1, qz2, qz3, if_pos, if_neg, reduceIte, e0, e1, e2, e3, e4, d, Int.add_zero, ma_sm]
      · have d : ma_wr s T V l i = 1 := by
          unfold ma_wr
          rw [if_pos (by omega)]
        refine ⟨(iI (ma_sm (i + 1) (ma_wr s T V l)), N1), ?_, rfl, hM.tr gM⟩
        simp only [l_X12_wrongBy_4]
        simp (disch := omega) only [qn0, qn1, qn2, qn3, qn4, qn5, qn6, qn7, qn8, qn9, qn10, qn11, qn12, qn13, qn14, qn15, qn16, qn17, qn18, qn24, qn30, qn31, qn32, qn33, qn36, qn38, qn40, qn41, qn42, qn43, qn45, qn47, qn48, qn49, qn50, qn51, qn52, qn53, qn57, qn58, qn59, qn60, qn61, qn62, qn63, qn91, qn93, qn97, qn99, qn100, qn103, qn104, qn112, qn113, qn115, qn116, qn118, qn119, qn121, qn124, qn173, qn177, qn240, qn255, qn295, qn352, qn353, qn533, qn999, qn1000, qn1023, qn6561, qn10000, qn20787, qn1000000, qn252645135, qn858993459, qn1000000000, qn1431655765, q_s1, q_s2, q_s3, q_s4, q_s5, iI_add, iI_sub, iI_mul, iI_neg, q_lt, q_le, q_eq, qz0, qz1, qz2, qz3, if_pos, if_neg, reduceIte, e0, e1, e2, e3, e4, d, Int.add_zero, ma_sm])
    (by
      rintro f ⟨a0, N⟩ ⟨ha, hM⟩
      simp only at ha hM
      subst ha
      have CN := D.ag W.2.1 hM
      refine ⟨(iI (ma_sm (T 3 0).toNat (ma_wr s T V l)), iI ((T 3 0).toNat : Nat), N), ?_, N, rfl, hM⟩
      simp only [l_X12_wrongBy_4]
      simp (disch := omega) only [qn0, qn1, qn2, qn3, qn4, qn5, qn6, qn7, qn8, qn9, qn10, qn11, qn12, qn13, qn14, qn15, qn16, qn17, qn18, qn24, qn30, qn31, qn32, qn33, qn36, qn38, qn40, qn41, qn42, qn43, qn45, qn47, qn48, qn49, qn50, qn51, qn52, qn53, qn57, qn58, qn59, qn60, qn61, qn62, qn63, qn91, qn93, qn97, qn99, qn100, qn103, qn104, qn112, qn113, qn115, qn116, qn118, qn119, qn121, qn124, qn173, qn177, qn240, qn255, qn295, qn352, qn353, qn533, qn999, qn1000, qn1023, qn6561, qn10000, qn20787, qn1000000, qn252645135, qn858993459, qn1000000000, qn1431655765, q_s1, q_s2, q_s3, q_s4, q_s5, iI_add, iI_sub, iI_mul, iI_neg, q_lt, q_le, q_eq, qz0, qz1, qz2, qz3, if_pos, if_neg, reduceIte, CN.fo])
  obtain ⟨M1, rfl, g⟩ := hr
  exact ⟨M1, e, g⟩
theorem c_wy (W : ma_W s T V) (C : ma_C s T V M) {l : Int} (hl : -1 ≤ l ∧ l < T 3 4) : ∃ M1, f_X11_wrongedBy M (iI l) = some (iI (ma_wy s T V l), M1) ∧ iv_ag M M1 := by
  obtain ⟨M1, e, g⟩ := c_wr_l W C hl
  have z : iI (ma_sm 0 (ma_wr s T V l)) = iI 0 := rfl
  rw [z] at e
  refine ⟨M1, ?_, g⟩
  unfold f_X11_wrongedBy
  simp only [qn0, qn1, qn2, qn3, qn4, qn5, qn6, qn7, qn8, qn9, qn10, qn11, qn12, qn13, qn14, qn15, qn16, qn17, qn18, qn24, qn30, qn31, qn32, qn33, qn36, qn38, qn40, qn41, qn42, qn43, qn45, qn47, qn48, qn49, qn50, qn51, qn52, qn53, qn57, qn58, qn59, qn60, qn61, qn62, qn63, qn91, qn93, qn97, qn99, qn100, qn103, qn104, qn112, qn113, qn115, qn116, qn118, qn119, qn121, qn124, qn173, qn177, qn240, qn255, qn295, qn352, qn353, qn533, qn999, qn1000, qn1023, qn6561, qn10000, qn20787, qn1000000, qn252645135, qn858993459, qn1000000000, qn1431655765, q_s1, q_s2, q_s3, q_s4, q_s5, iI_add, iI_sub, iI_mul, iI_neg, q_lt, q_le, q_eq, qz0, qz1, qz2, qz3, if_pos, if_neg, reduceIte, e]
  rfl
theorem m_wy (W : ma_W s T V) (D : ma_M s T V M) {l : Int} (hl : -1 ≤ l ∧ l < T 3 4) : ∃ M1, f_X12_wrongBy M (iI l) = some (iI (ma_wy s T V l), M1) ∧ iv_ag M M1 := by
  obtain ⟨M1, e, g⟩ := m_wr_l W D hl
  have z : iI (ma_sm 0 (ma_wr s T V l)) = iI 0 := rfl
  rw [z] at e
  refine ⟨M1, ?_, g⟩
  unfold f_X12_wrongBy
  simp only [qn0, qn1, qn2, qn3, qn4, qn5, qn6, qn7, qn8, qn9, qn10, qn11, qn12, qn13, qn14, qn15, qn16, qn17, qn18, qn24, qn30, qn31, qn32, qn33, qn36, qn38, qn40, qn41, qn42, qn43, qn45, qn47, qn48, qn49, qn50, qn51, qn52, qn53, qn57, qn58, qn59, qn60, qn61, qn62, qn63, qn91, qn93, qn97, qn99, qn100, qn103, qn104, qn112, qn113, qn115, qn116, qn118, qn119, qn121, qn124, qn173, qn177, qn240, qn255, qn295, qn352, qn353, qn533, qn999, qn1000, qn1023, qn6561, qn10000, qn20787, qn1000000, qn252645135, qn858993459, qn1000000000, qn1431655765, q_s1, q_s2, q_s3, q_s4, q_s5, iI_add, iI_sub, iI_mul, iI_neg, q_lt, q_le, q_eq, qz0, qz1, qz2, qz3, if_pos, if_neg, reduceIte, e]
  rfl
theorem ma_wy_b {T : Nat → Nat → Int} (w : ma_wT T) (s : Nat → Int) (V : ma_V) (l : Int) : 0 ≤ ma_wy s T V l ∧ ma_wy s T V l ≤ 8 := by
  have f1 := w.1
  have h := ma_sm_b (n := (T 3 0).toNat) (f := ma_wr s T V l) (a := 0) (b := 1) (fun i _ => by unfold ma_wr; split <;> omega)
  unfold ma_wy
  omega
def ma_bt (s : Nat → Int) (T : Nat → Nat → Int) (V : ma_V) (i : Nat) : Nat := ma_am (fun k => -ma_wy s T V k) i
theorem ma_bt_s (s : Nat → Int) (T : Nat → Nat → Int) (V : ma_V) (i : Nat) : ma_bt s T V (i + 1) = if ma_wy s T V (ma_bt s T V i) ≤ ma_wy s T V i then ma_bt s T V i else i := by
  unfold ma_bt
  simp only [ma_am]
  by_cases c : ma_wy s T V (ma_am (fun k => -ma_wy s T V k) i) ≤ ma_wy s T V i
  · rw [if_pos (by omega), if_pos c]
  · rw [if_neg (by omega), if_neg c]
theorem c_bt_l (W : ma_W s T V) (C : ma_C s T V M) : ∃ M1, l_X11_better_15  gs_FU (iI (if 0 = 0 then -1 else ma_bt s T V 0)) (iI (if 0 = 0 then 0 else ma_wy s T V (ma_bt s T V 0))) (iI 0) M = some (iI (if (T 3 4).toNat = 0 then -1 else ma_bt s T V (T 3 4).toNat), iI (if (T 3 4).toNat = 0 then 0 else ma_wy s T V (ma_bt s T V (T 3 4).toNat)), iI ((T 3 4).toNat : Nat), M1) ∧ iv_ag M M1 := by
  obtain ⟨f1, f2, f3, f4, f5, f6, f7, f8, -⟩ := W.2.1
  obtain ⟨r, e, hr⟩ := ma_up0 (fun f i (q9 : Int32 × Int32 × gs_M) => l_X11_better_15  f q9.1 q9.2.1 i q9.2.2) ((T 3 4).toNat)
    (fun i q9 => q9.1 = iI (if i = 0 then -1 else ma_bt s T V i) ∧ q9.2.1 = iI (if i = 0 then 0 else ma_wy s T V (ma_bt s T V i)) ∧ iv_ag M q9.2.2)
    (fun r => ∃ M1, r = (iI (if (T 3 4).toNat = 0 then -1 else ma_bt s T V (T 3 4).toNat), iI (if (T 3 4).toNat = 0 then 0 else ma_wy s T V (ma_bt s T V (T 3 4).toNat)), iI ((T 3 4).toNat : Nat), M1) ∧ iv_ag M M1) (iI (if 0 = 0 then -1 else ma_bt s T V 0), iI (if 0 = 0 then 0 else ma_wy s T V (ma_bt s T V 0)), M) (by omega)
    ⟨rfl, rfl, iv_ag.rf⟩
    (by
      rintro f i ⟨a0, b0, N⟩ hi ⟨ha, hb, hM⟩
      left
      simp only at ha hb hM
      subst ha
      subst hb
      have CN := C.ag W.2.1 hM
      obtain ⟨N1, e1, gM⟩ := c_wy W CN (l := i) (by omega)
      have b1 := ma_wy_b W.2.1 s V i
      have b2 := ma_wy_b W.2.1 s V (ma_bt s T V i)
      have b3 : ma_bt s T V i ≤ i - 1 := ma_am_b _ i
      have e0 : f_X4_laws N = some (iI (T 3 4)) := by
        unfold f_X4_laws
        rw [CN.lm]
      rcases (by omega : i = 0 ∨ (0 < i ∧ ma_wy s T V (ma_bt s T V i) ≤ ma_wy s T V i) ∨ (0 < i ∧ ma_wy s T V i < ma_wy s T V (ma_bt s T V i))) with c | c | c
      · have z : ma_bt s T V (i + 1) = i := by
          rw [c]
          exact ma_am_1 _
        refine ⟨(iI (if (i + 1) = 0 then -1 else ma_bt s T V (i + 1)), iI (if (i + 1) = 0 then 0 else ma_wy s T V (ma_bt s T V (i + 1))), N1), ?_, rfl, rfl, hM.tr gM⟩
        simp only [l_X11_better_15]
        simp (disch := omega) only [qn0, qn1, qn2, qn3, qn4, qn5, qn6, qn7, qn8, qn9, qn10, qn11, qn12, qn13, qn14, qn15, qn16, qn17, qn18, qn24, qn30, qn31, qn32, qn33, qn36, qn38, qn40, qn41, qn42, qn43, qn45, qn47, qn48, qn49, qn50, qn51, qn52, qn53, qn57, qn58, qn59, qn60, qn61, qn62, qn63, qn91, qn93, qn97, qn99, qn100, qn103, qn104, qn112, qn113, qn115, qn116, qn118, qn119, qn121, qn124, qn173, qn177, qn240, qn255, qn295, qn352, qn353, qn533, qn999, qn1000, qn1023, qn6561, qn10000, qn20787, qn1000000, qn252645135, qn858993459, qn1000000000, qn1431655765, q_s1, q_s2, q_s3, q_s4, q_s5, iI_add, iI_sub, iI_mul, iI_neg, q_lt, q_le, q_eq, qz0, qz1, qz2, qz3, if_pos, if_neg, reduceIte, e0, e1, z]
      · have z := ma_bt_s s T V i
        rw [if_pos c.2] at z
        refine ⟨(iI (if (i + 1) = 0 then -1 else ma_bt s T V (i + 1)), iI (if (i + 1) = 0 then 0 else ma_wy s T V (ma_bt s T V (i + 1))), N1), ?_, rfl, rfl, hM.tr gM⟩
        simp only [l_X11_better_15]
        simp (disch := omega) only [qn0, qn1, qn2, qn3, qn4, qn5, qn6, qn7, qn8, qn9, qn10, qn11, qn12, qn13, qn14, qn15, qn16, qn17, qn18, qn24, qn30, qn31, qn32, qn33, qn36, qn38, qn40, qn41, qn42, qn43, qn45, qn47, qn48, qn49, qn50, qn51, qn52, qn53, qn57, qn58, qn59, qn60, qn61, qn62, qn63, qn91, qn93, qn97, qn99, qn100, qn103, qn104, qn112, qn113, qn115, qn116, qn118, qn119, qn121, qn124, qn173, qn177, qn240, qn255, qn295, qn352, qn353, qn533, qn999, qn1000, qn1023, qn6561, qn10000, qn20787, qn1000000, qn252645135, qn858993459, qn1000000000, qn1431655765, q_s1, q_s2, q_s3, q_s4, q_s5, iI_add, iI_sub, iI_mul, iI_neg, q_lt, q_le, q_eq, qz0, qz1, qz2, qz3, if_pos, if_neg, reduceIte, e0, e1, z]
      · have z := ma_bt_s s T V i
        rw [if_neg (by omega)] at z
        refine ⟨(iI (if (i + 1) = 0 then -1 else ma_bt s T V (i + 1)), iI (if (i + 1) = 0 then 0 else ma_wy s T V (ma_bt s T V (i + 1))), N1), ?_, rfl, rfl, hM.tr gM⟩
        simp only [l_X11_better_15]
        simp (disch := omega) only [qn0, qn1, qn2, qn3, qn4, qn5, qn6, qn7, qn8, qn9, qn10, qn11, qn12, qn13, qn14, qn15, qn16, qn17, qn18, qn24, qn30, qn31, qn32, qn33, qn36, qn38, qn40, qn41, qn42, qn43, qn45, qn47, qn48, qn49, qn50, qn51, qn52, qn53, qn57, qn58, qn59, qn60, qn61, qn62, qn63, qn91, qn93, qn97, qn99, qn100, qn103, qn104, qn112, qn113, qn115, qn116, qn118, qn119, qn121, qn124, qn173, qn177, qn240, qn255, qn295, qn352, qn353, qn533, qn999, qn1000, qn1023, qn6561, qn10000, qn20787, qn1000000, qn252645135, qn858993459, qn1000000000, qn1431655765, q_s1, q_s2, q_s3, q_s4, q_s5, iI_add, iI_sub, iI_mul, iI_neg, q_lt, q_le, q_eq, qz0, qz1, qz2, qz3, if_pos, if_neg, reduceIte, e0, e1, z])
    (by
      rintro f ⟨a0, b0, N⟩ ⟨ha, hb, hM⟩
      simp only at ha hb hM
      subst ha
      subst hb
      have CN := C.ag W.2.1 hM
      have c_laws : f_X4_laws N = some (iI (T 3 4)) := by
        unfold f_X4_laws
        rw [CN.lm]
      refine ⟨(iI (if (T 3 4).toNat = 0 then -1 else ma_bt s T V (T 3 4).toNat), iI (if (T 3 4).toNat = 0 then 0 else ma_wy s T V (ma_bt s T V (T 3 4).toNat)), iI ((T 3 4).toNat : Nat), N), ?_, N, rfl, hM⟩
      simp only [l_X11_better_15]
      simp (disch := omega) only [qn0, qn1, qn2, qn3, qn4, qn5, qn6, qn7, qn8, qn9, qn10, qn11, qn12, qn13, qn14, qn15, qn16, qn17, qn18, qn24, qn30, qn31, qn32, qn33, qn36, qn38, qn40, qn41, qn42, qn43, qn45, qn47, qn48, qn49, qn50, qn51, qn52, qn53, qn57, qn58, qn59, qn60, qn61, qn62, qn63, qn91, qn93, qn97, qn99, qn100, qn103, qn104, qn112, qn113, qn115, qn116, qn118, qn119, qn121, qn124, qn173, qn177, qn240, qn255, qn295, qn352, qn353, qn533, qn999, qn1000, qn1023, qn6561, qn10000, qn20787, qn1000000, qn252645135, qn858993459, qn1000000000, qn1431655765, q_s1, q_s2, q_s3, q_s4, q_s5, iI_add, iI_sub, iI_mul, iI_neg, q_lt, q_le, q_eq, qz0, qz1, qz2, qz3, if_pos, if_neg, reduceIte, c_laws])
  obtain ⟨M1, rfl, g⟩ := hr
  exact ⟨M1, e, g⟩
theorem m_bt_l (W : ma_W s T V) (D : ma_M s T V M) (h4 : 0 < T 3 4) : ∃ M1, l_X12_better_25  gs_FU (iI (ma_bt s T V 1)) (iI 1) M = some (iI (ma_bt s T V (T 3 4).toNat), iI ((T 3 4).toNat : Nat), M1) ∧ iv_ag M M1 := by
  obtain ⟨f1, f2, f3, f4, f5, f6, f7, f8, -⟩ := W.2.1
  obtain ⟨r, e, hr⟩ := ma_up1 (fun f i (q9 : Int32 × gs_M) => l_X12_better_25  f q9.1 i q9.2) ((T 3 4).toNat)
    (fun i q9 => q9.1 = iI (ma_bt s T V i) ∧ iv_ag M q9.2)
    (fun r => ∃ M1, r = (iI (ma_bt s T V (T 3 4).toNat), iI ((T 3 4).toNat : Nat), M1) ∧ iv_ag M M1) (iI (ma_bt s T V 1), M) (by omega) (by omega)
    ⟨rfl, iv_ag.rf⟩
    (by
      rintro f i ⟨a0, N⟩ hi ⟨ha, hM⟩
      left
      simp only at ha hM
      subst ha
      have CN := D.ag W.2.1 hM
      have b3 : ma_bt s T V i ≤ i - 1 := ma_am_b _ i
      obtain ⟨N1, e1, g1⟩ := m_wy W CN (l := i) (by omega)
      obtain ⟨N2, e2, g2⟩ := m_wy W (CN.ag W.2.1 g1) (l := ma_bt s T V i) (by omega)
      have gM := g1.tr g2
      have b1 := ma_wy_b W.2.1 s V i
      have b2 := ma_wy_b W.2.1 s V (ma_bt s T V i)
      have e0 := CN.lm
      rcases (by omega : ma_wy s T V (ma_bt s T V i) ≤ ma_wy s T V i ∨ ma_wy s T V i < ma_wy s T V (ma_bt s T V i)) with c | c
      · have z := ma_bt_s s T V i
        rw [if_pos c] at z
        refine ⟨(iI (ma_bt s T V (i + 1)), N2), ?_, rfl, hM.tr gM⟩
        simp only [l_X12_better_25]
        simp (disch := omega) only [qn0, qn1, qn2, qn3, qn4, qn5, qn6, qn7, qn8, qn9, qn10, qn11, qn12, qn13, qn14, qn15, qn16, qn17, qn18, qn24, qn30, qn31, qn32, qn33, qn36, qn38, qn40, qn41, qn42, qn43, qn45, qn47, qn48, qn49, qn50, qn51, qn52, qn53, qn57, qn58, qn59, qn60, qn61, qn62, qn63, qn91, qn93, qn97, qn99, qn100, qn103, qn104, qn112, qn113, qn115, qn116, qn118, qn119, qn121, qn124, qn173, qn177, qn240, qn255, qn295, qn352, qn353, qn533, qn999, qn1000, qn1023, qn6561, qn10000, qn20787, qn1000000, qn252645135, qn858993459, qn1000000000, qn1431655765, q_s1, q_s2, q_s3, q_s4, q_s5, iI_add, iI_sub, iI_mul, iI_neg, q_lt, q_le, q_eq, qz0, qz1, qz2, qz3, if_pos, if_neg, reduceIte, e0, e1, e2, z]
      · have z := ma_bt_s s T V i
        rw [if_neg (by omega)] at z
        refine ⟨(iI (ma_bt s T V (i + 1)), N2), ?_, rfl, hM.tr gM⟩
        simp only [l_X12_better_25]
        simp (disch := omega) only [qn0, qn1, qn2, qn3, qn4, qn5, qn6, qn7, qn8, qn9, qn10, qn11, qn12, qn13, qn14, qn15, qn16, qn17, qn18, qn24, qn30, qn31, qn32, qn33, qn36, qn38, qn40, qn41, qn42, qn43, qn45, qn47, qn48, qn49, qn50, qn51, qn52, qn53, qn57, qn58, qn59, qn60, qn61, qn62, qn63, qn91, qn93, qn97, qn99, qn100, qn103, qn104, qn112, qn113, qn115, qn116, qn118, qn119, qn121, qn124, qn173, qn177, qn240, qn255, qn295, qn352, qn353, qn533, qn999, qn1000, qn1023, qn6561, qn10000, qn20787, qn1000000, qn252645135, qn858993459, qn1000000000, qn1431655765, q_s1, q_s2, q_s3, q_s4, q_s5, iI_add, iI_sub, iI_mul, iI_neg, q_lt, q_le, q_eq, qz0, qz1, qz2, qz3, if_pos, if_neg, reduceIte, e0, e1, e2, z])
    (by
      rintro f ⟨a0, N⟩ ⟨ha, hM⟩
      simp only at ha hM
      subst ha
      have CN := D.ag W.2.1 hM
      refine ⟨(iI (ma_bt s T V (T 3 4).toNat), iI ((T 3 4).toNat : Nat), N), ?_, N, rfl, hM⟩
      simp only [l_X12_better_25]
      simp (disch := omega) only [qn0, qn1, qn2, qn3, qn4, qn5, qn6, qn7, qn8, qn9, qn10, qn11, qn12, qn13, qn14, qn15, qn16, qn17, qn18, qn24, qn30, qn31, qn32, qn33, qn36, qn38, qn40, qn41, qn42, qn43, qn45, qn47, qn48, qn49, qn50, qn51, qn52, qn53, qn57, qn58, qn59, qn60, qn61, qn62, qn63, qn91, qn93, qn97, qn99, qn100, qn103, qn104, qn112, qn113, qn115, qn116, qn118, qn119, qn121, qn124, qn173, qn177, qn240, qn255, qn295, qn352, qn353, qn533, qn999, qn1000, qn1023, qn6561, qn10000, qn20787, qn1000000, qn252645135, qn858993459, qn1000000000, qn1431655765, q_s1, q_s2, q_s3, q_s4, q_s5, iI_add, iI_sub, iI_mul, iI_neg, q_lt, q_le, q_eq, qz0, qz1, qz2, qz3, if_pos, if_neg, reduceIte, CN.lm])
  obtain ⟨M1, rfl, g⟩ := hr
  exact ⟨M1, e, g⟩
theorem c_pb_l (W : ma_W s T V) (C : ma_C s T V M) {x : Int} (hx : 0 ≤ x ∧ x ≤ 2) : ∃ M1, l_X11_people_22 (iI x) gs_FU (ma_pb s T V x 0) (iI 0) M = some (ma_pb s T V x (T 3 0).toNat, iI ((T 3 0).toNat : Nat), M1) ∧ iv_ag M M1 := by
  obtain ⟨f1, f2, f3, f4, f5, f6, f7, f8, -⟩ := W.2.1
  obtain ⟨r, e, hr⟩ := ma_up0 (fun f i (q9 : Int32 × gs_M) => l_X11_people_22 (iI x) f q9.1 i q9.2) ((T 3 0).toNat)
    (fun i q9 => q9.1 = ma_pb s T V x i ∧ iv_ag M q9.2)
    (fun r => ∃ M1, r = (ma_pb s T V x (T 3 0).toNat, iI ((T 3 0).toNat : Nat), M1) ∧ iv_ag M M1) (ma_pb s T V x 0, M) (by omega)
    ⟨rfl, iv_ag.rf⟩
    (by
      rintro f i ⟨a0, N⟩ hi ⟨ha, hM⟩
      left
      simp only at ha hM
      subst ha
      have CN := C.ag W.2.1 hM
      have i8 : i < 8 := by omega
      have o := W.1.1 i i8
      unfold ma_one at o
      have e0 := c_crowd CN
      have e1 := c_of0 CN.st i8
      have e2 := c_of5 CN.st i8
      have b2 := ma_cs_b W.1 T V (T 3 2) i
      obtain ⟨N1, e3, gM⟩ := c_wbg W CN (p := i) (by omega) f7
      have e4 : f_X4_holding N = some (iI (T 3 2)) := by
        unfold f_X4_holding
        rw [CN.la]
      rcases (by omega : (x = 0 ∧ s (6 * i + 5) = 0) ∨ (x = 0 ∧ s (6 * i + 5) = 1) ∨ (x = 1 ∧ s (6 * i) = 0) ∨ (x = 1 ∧ 0 < s (6 * i)) ∨ (x = 2 ∧ T 1 1 ≤ ma_cs s T V (T 3 2) i) ∨ (x = 2 ∧ ma_cs s T V (T 3 2) i < T 1 1)) with c | c | c | c | c | c
      · have z := ma_pb_y (s := s) (T := T) (V := V) (x := x) (i := i) (by unfold ma_pi; rw [if_pos c.1]; exact c.2)
        refine ⟨(ma_pb s T V x (i + 1), N), ?_, rfl, hM⟩
        simp only [l_X11_people_22]
        simp (disch := omega) only [qn0, qn1, qn2, qn3, qn4, qn5, qn6, qn7, qn8, qn9, qn10, qn11, qn12, qn13, qn14, qn15, qn16, qn17, qn18, qn24, qn30, qn31, qn32, qn33, qn36, qn38, qn40, qn41, qn42, qn43, qn45, qn47, qn48, qn49, qn50, qn51, qn52, qn53, qn57, qn58, qn59, qn60, qn61, qn62, qn63, qn91, qn93, qn97, qn99, qn100, qn103, qn104, qn112, qn113, qn115, qn116, qn118, qn119, qn121, qn124, qn173, qn177, qn240, qn255, qn295, qn352, qn353, qn533, qn999, qn1000, qn1023, qn6561, qn10000, qn20787, qn1000000, qn252645135, qn858993459, qn1000000000, qn1431655765, q_s1, q_s2, q_s3, q_s4, q_s5, iI_add, iI_sub, iI_mul, iI_neg, q_lt, q_le, q_eq, qz0, qz1, qz2, qz3, if_pos, if_neg, reduceIte, e0, e1, e2, z]
      · have z := ma_pb_n (s := s) (T := T) (V := V) (x := x) (i := i) (by unfold ma_pi; rw [if_pos c.1]; omega)
        refine ⟨(ma_pb s T V x (i + 1), N), ?_, rfl, hM⟩
        simp only [l_X11_people_22]
        simp (disch := omega) only [qn0, qn1, qn2, qn3, qn4, qn5, qn6, qn7, qn8, qn9, qn10, qn11, qn12, qn13, qn14, qn15, qn16, qn17, qn18, qn24, qn30, qn31, qn32, qn33, qn36, qn38, qn40, qn41, qn42, qn43, qn45, qn47, qn48, qn49, qn50, qn51, qn52, qn53, qn57, qn58, qn59, qn60, qn61, qn62, qn63, qn91, qn93, qn97, qn99, qn100, qn103, qn104, qn112, qn113, qn115, qn116, qn118, qn119, qn121, qn124, qn173, qn177, qn240, qn255, qn295, qn352, qn353, qn533, qn999, qn1000, qn1023, qn6561, qn10000, qn20787, qn1000000, qn252645135, qn858993459, qn1000000000, qn1431655765, q_s1, q_s2, q_s3, q_s4, q_s5, iI_add, iI_sub, iI_mul, iI_neg, q_lt, q_le, q_eq, qz0, qz1, qz2, qz3, if_pos, if_neg, reduceIte, e0, e1, e2, z]
      · have z := ma_pb_y (s := s) (T := T) (V := V) (x := x) (i := i) (by unfold ma_pi; rw [if_neg (by omega), if_pos c.1]; exact c.2)
        refine ⟨(ma_pb s T V x (i + 1), N), ?_, rfl, hM⟩
        simp only [l_X11_people_22]
        simp (disch := omega) only [qn0, qn1, qn2, qn3, qn4, qn5, qn6, qn7, qn8, qn9, qn10, qn11, qn12, qn13, qn14, qn15, qn16, qn17, qn18, qn24, qn30, qn31, qn32, qn33, qn36, qn38, qn40, qn41, qn42, qn43, qn45, qn47, qn48, qn49, qn50, qn51, qn52, qn53, qn57, qn58, qn59, qn60, qn61, qn62, qn63, qn91, qn93, qn97, qn99, qn100, qn103, qn104, qn112, qn113, qn115, qn116, qn118, qn119, qn121, qn124, qn173, qn177, qn240, qn255, qn295, qn352, qn353, qn533, qn999, qn1000, qn1023, qn6561, qn10000, qn20787, qn1000000, qn252645135, qn858993459, qn1000000000, qn1431655765, q_s1, q_s2, q_s3, q_s4, q_s5, iI_add, iI_sub, iI_mul, iI_neg, q_lt, q_le, q_eq, qz0, qz1, qz2, qz3, if_pos, if_neg, reduceIte, e0, e1, e2, z]
      · have z := ma_pb_n (s := s) (T := T) (V := V) (x := x) (i := i) (by unfold ma_pi; rw [if_neg (by omega), if_pos c.1]; omega)
        refine ⟨(ma_pb s T V x (i + 1), N), ?_, rfl, hM⟩
        simp only [l_X11_people_22]
        simp (disch := omega) only [qn0, qn1, qn2, qn3, qn4, qn5, qn6, qn7, qn8, qn9, qn10, qn11, qn12, qn13, qn14, qn15, qn16, qn17, qn18, qn24, qn30, qn31, qn32, qn33, qn36, qn38, qn40, qn41, qn42, qn43, qn45, qn47, qn48, qn49, qn50, qn51, qn52, qn53, qn57, qn58, qn59, qn60, qn61, qn62, qn63, qn91, qn93, qn97, qn99, qn100, qn103, qn104, qn112, qn113, qn115, qn116, qn118, qn119, qn121, qn124, qn173, qn177, qn240, qn255, qn295, qn352, qn353, qn533, qn999, qn1000, qn1023, qn6561, qn10000, qn20787, qn1000000, qn252645135, qn858993459, qn1000000000, qn1431655765, q_s1, q_s2, q_s3, q_s4, q_s5, iI_add, iI_sub, iI_mul, iI_neg, q_lt, q_le, q_eq, qz0, qz1, qz2, qz3, if_pos, if_neg, reduceIte, e0, e1, e2, z]
      · have z := ma_pb_y (s := s) (T := T) (V := V) (x := x) (i := i) (by unfold ma_pi; rw [if_neg (by omega), if_neg (by omega)]; exact c.2)
        refine ⟨(ma_pb s T V x (i + 1), N1), ?_, rfl, hM.tr gM⟩
        simp only [l_X11_people_22]
        simp (disch := omega) only [qn0, qn1, qn2, qn3, qn4, qn5, qn6, qn7, qn8, qn9, qn10, qn11, qn12, qn13, qn14, qn15, qn16, qn17, qn18, qn24, qn30, qn31, qn32, qn33, qn36, qn38, qn40, qn41, qn42, qn43, qn45, qn47, qn48, qn49, qn50, qn51, qn52, qn53, qn57, qn58, qn59, qn60, qn61, qn62, qn63, qn91, qn93, qn97, qn99, qn100, qn103, qn104, qn112, qn113, qn115, qn116, qn118, qn119, qn121, qn124, qn173, qn177, qn240, qn255, qn295, qn352, qn353, qn533, qn999, qn1000, qn1023, qn6561, qn10000, qn20787, qn1000000, qn252645135, qn858993459, qn1000000000, qn1431655765, q_s1, q_s2, q_s3, q_s4, q_s5, iI_add, iI_sub, iI_mul, iI_neg, q_lt, q_le, q_eq, qz0, qz1, qz2, qz3, if_pos, if_neg, reduceIte, e0, e1, e2, e3, e4, z]
      · have z := ma_pb_n (s := s) (T := T) (V := V) (x := x) (i := i) (by unfold ma_pi; rw [if_neg (by omega), if_neg (by omega)]; omega)
        refine ⟨(ma_pb s T V x (i + 1), N1), ?_, rfl, hM.tr gM⟩
        simp only [l_X11_people_22]
        simp (disch := omega) only [qn0, qn1, qn2, qn3, qn4, qn5, qn6, qn7, qn8, qn9, qn10, qn11, qn12, qn13, qn14, qn15, qn16, qn17, qn18, qn24, qn30, qn31, qn32, qn33, qn36, qn38, qn40, qn41, qn42, qn43, qn45, qn47, qn48, qn49, qn50, qn51, qn52, qn53, qn57, qn58, qn59, qn60, qn61, qn62, qn63, qn91, qn93, qn97, qn99, qn100, qn103, qn104, qn112, qn113, qn115, qn116, qn118, qn119, qn121, qn124, qn173, qn177, qn240, qn255, qn295, qn352, qn353, qn533, qn999, qn1000, qn1023, qn6561, qn10000, qn20787, qn1000000, qn252645135, qn858993459, qn1000000000, qn1431655765, q_s1, q_s2, q_s3, q_s4, q_s5, iI_add, iI_sub, iI_mul, iI_neg, q_lt, q_le, q_eq, qz0, qz1, qz2, qz3, if_pos, if_neg, reduceIte, e0, e1, e2, e3, e4, z])
    (by
      rintro f ⟨a0, N⟩ ⟨ha, hM⟩
      simp only at ha hM
      subst ha
      have CN := C.ag W.2.1 hM
      refine ⟨(ma_pb s T V x (T 3 0).toNat, iI ((T 3 0).toNat : Nat), N), ?_, N, rfl, hM⟩
      simp only [l_X11_people_22]
      simp (disch := omega) only [qn0, qn1, qn2, qn3, qn4, qn5, qn6, qn7, qn8, qn9, qn10, qn11, qn12, qn13, qn14, qn15, qn16, qn17, qn18, qn24, qn30, qn31, qn32, qn33, qn36, qn38, qn40, qn41, qn42, qn43, qn45, qn47, qn48, qn49, qn50, qn51, qn52, qn53, qn57, qn58, qn59, qn60, qn61, qn62, qn63, qn91, qn93, qn97, qn99, qn100, qn103, qn104, qn112, qn113, qn115, qn116, qn118, qn119, qn121, qn124, qn173, qn177, qn240, qn255, qn295, qn352, qn353, qn533, qn999, qn1000, qn1023, qn6561, qn10000, qn20787, qn1000000, qn252645135, qn858993459, qn1000000000, qn1431655765, q_s1, q_s2, q_s3, q_s4, q_s5, iI_add, iI_sub, iI_mul, iI_neg, q_lt, q_le, q_eq, qz0, qz1, qz2, qz3, if_pos, if_neg, reduceIte, c_crowd CN])
  obtain ⟨M1, rfl, g⟩ := hr
  exact ⟨M1, e, g⟩
theorem m_pb_l (W : ma_W s T V) (D : ma_M s T V M) {x : Int} (hx : 0 ≤ x ∧ x ≤ 2) : ∃ M1, l_X12_people_30 (iI x) gs_FU (ma_pb s T V x 0) (iI 0) M = some (ma_pb s T V x (T 3 0).toNat, iI ((T 3 0).toNat : Nat), M1) ∧ iv_ag M M1 := by
  obtain ⟨f1, f2, f3, f4, f5, f6, f7, f8, -⟩ := W.2.1
  obtain ⟨r, e, hr⟩ := ma_up0 (fun f i (q9 : Int32 × gs_M) => l_X12_people_30 (iI x) f q9.1 i q9.2) ((T 3 0).toNat)
    (fun i q9 => q9.1 = ma_pb s T V x i ∧ iv_ag M q9.2)
    (fun r => ∃ M1, r = (ma_pb s T V x (T 3 0).toNat, iI ((T 3 0).toNat : Nat), M1) ∧ iv_ag M M1) (ma_pb s T V x 0, M) (by omega)
    ⟨rfl, iv_ag.rf⟩
    (by
      rintro f i ⟨a0, N⟩ hi ⟨ha, hM⟩
      left
      simp only at ha hM
      subst ha
      have CN := D.ag W.2.1 hM
      have i8 : i < 8 := by omega
      have o := W.1.1 i i8
      unfold ma_one at o
      have e0 := CN.fo
      have e1 := m_of0 CN.st i8
      have e2 := m_of5 CN.st i8
      have b2 := ma_cs_b W.1 T V (T 3 2) i
      obtain ⟨N1, e3, gM⟩ := m_case W CN (p := i) (by omega) f7
      have e4 := m_rule1 (CN.ag W.2.1 gM)
      rcases (by omega : (x = 0 ∧ s (6 * i + 5) = 0) ∨ (x = 0 ∧ s (6 * i + 5) = 1) ∨ (x = 1 ∧ s (6 * i) = 0) ∨ (x = 1 ∧ 0 < s (6 * i)) ∨ (x = 2 ∧ T 1 1 ≤ ma_cs s T V (T 3 2) i) ∨ (x = 2 ∧ ma_cs s T V (T 3 2) i < T 1 1)) with c | c | c | c | c | c
      · have z := ma_pb_y (s := s) (T := T) (V := V) (x := x) (i := i) (by unfold ma_pi; rw [if_pos c.1]; exact c.2)
        refine ⟨(ma_pb s T V x (i + 1), N), ?_, rfl, hM⟩
        simp only [l_X12_people_30]
        simp (disch := omega) only [qn0, qn1, qn2, qn3, qn4, qn5, qn6, qn7, qn8, qn9, qn10, qn11, qn12, qn13, qn14, qn15, qn16, qn17, qn18, qn24, qn30, qn31, qn32, qn33, qn36, qn38, qn40, qn41, qn42, qn43, qn45, qn47, qn48, qn49, qn50, qn51, qn52, qn53, qn57, qn58, qn59, qn60, qn61, qn62, qn63, qn91, qn93, qn97, qn99, qn100, qn103, qn104, qn112, qn113, qn115, qn116, qn118, qn119, qn121, qn124, qn173, qn177, qn240, qn255, qn295, qn352, qn353, qn533, qn999, qn1000, qn1023, qn6561, qn10000, qn20787, qn1000000, qn252645135, qn858993459, qn1000000000, qn1431655765, q_s1, q_s2, q_s3, q_s4, q_s5, iI_add, iI_sub, iI_mul, iI_neg, q_lt, q_le, q_eq, qz0, qz1, qz2, qz3, if_pos, if_neg, reduceIte, e0, e1, e2, z]
      · have z := ma_pb_n (s := s) (T := T) (V := V) (x := x) (i := i) (by unfold ma_pi; rw [if_pos c.1]; omega)
        refine ⟨(ma_pb s T V x (i + 1), N), ?_, rfl, hM⟩
        simp only [l_X12_people_30]
        simp (disch := omega) only [qn0, qn1, qn2, qn3, qn4, qn5, qn6, qn7, qn8, qn9, qn10, qn11, qn12, qn13, qn14, qn15, qn16, qn17, qn18, qn24, qn30, qn31, qn32, qn33, qn36, qn38, qn40, qn41, qn42, qn43, qn45, qn47, qn48, qn49, qn50, qn51, qn52, qn53, qn57, qn58, qn59, qn60, qn61, qn62, qn63, qn91, qn93, qn97, qn99, qn100, qn103, qn104, qn112, qn113, qn115, qn116, qn118, qn119, qn121, qn124, qn173, qn177, qn240, qn255, qn295, qn352, qn353, qn533, qn999, qn1000, qn1023, qn6561, qn10000, qn20787, qn1000000, qn252645135, qn858993459, qn1000000000, qn1431655765, q_s1, q_s2, q_s3, q_s4, q_s5, iI_add, iI_sub, iI_mul, iI_neg, q_lt, q_le, q_eq, qz0, qz1, qz2, qz3, if_pos, if_neg, reduceIte, e0, e1, e2, z]
      · have z := ma_pb_y (s := s) (T := T) (V := V) (x := x) (i := i) (by unfold ma_pi; rw [if_neg (by omega), if_pos c.1]; exact c.2)
        refine ⟨(ma_pb s T V x (i + 1), N), ?_, rfl, hM⟩
        simp only [l_X12_people_30]
        simp (disch := omega) only [qn0, qn1, qn2, qn3, qn4, qn5, qn6, qn7, qn8, qn9, qn10, qn11, qn12, qn13, qn14, qn15, qn16, qn17, qn18, qn24, qn30, qn31, qn32, qn33, qn36, qn38, qn40, qn41, qn42, qn43, qn45, qn47, qn48, qn49, qn50, qn51, qn52, qn53, qn57, qn58, qn59, qn60, qn61, qn62, qn63, qn91, qn93, qn97, qn99, qn100, qn103, qn104, qn112, qn113, qn115, qn116, qn118, qn119, qn121, qn124, qn173, qn177, qn240, qn255, qn295, qn352, qn353, qn533, qn999, qn1000, qn1023, qn6561, qn10000, qn20787, qn1000000, qn252645135, qn858993459, qn1000000000, qn1431655765, q_s1, q_s2, q_s3, q_s4, q_s5, iI_add, iI_sub, iI_mul, iI_neg, q_lt, q_le, q_eq, qz0, qz1, qz2, qz3, if_pos, if_neg, reduceIte, e0, e1, e2, z]
      · have z := ma_pb_n (s := s) (T := T) (V := V) (x := x) (i := i) (by unfold ma_pi; rw [if_neg (by omega), if_pos c.1]; omega)
        refine ⟨(ma_pb s T V x (i + 1), N), ?_, rfl, hM⟩
        simp only [l_X12_people_30]
        simp (disch := omega) only [qn0, qn1, qn2, qn3, qn4, qn5, qn6, qn7, qn8, qn9, qn10, qn11, qn12, qn13, qn14, qn15, qn16, qn17, qn18, qn24, qn30, qn31, qn32, qn33, qn36, qn38, qn40, qn41, qn42, qn43, qn45, qn47, qn48, qn49, qn50, qn51, qn52, qn53, qn57, qn58, qn59, qn60, qn61, qn62, qn63, qn91, qn93, qn97, qn99, qn100, qn103, qn104, qn112, qn113, qn115, qn116, qn118, qn119, qn121, qn124, qn173, qn177, qn240, qn255, qn295, qn352, qn353, qn533, qn999, qn1000, qn1023, qn6561, qn10000, qn20787, qn1000000, qn252645135, qn858993459, qn1000000000, qn1431655765, q_s1, q_s2, q_s3, q_s4, q_s5, iI_add, iI_sub, iI_mul, iI_neg, q_lt, q_le, q_eq, qz0, qz1, qz2, qz3, if_pos, if_neg, reduceIte, e0, e1, e2, z]
      · have z := ma_pb_y (s := s) (T := T) (V := V) (x := x) (i := i) (by unfold ma_pi; rw [if_neg (by omega), if_neg (by omega)]; exact c.2)
        refine ⟨(ma_pb s T V x (i + 1), N1), ?_, rfl, hM.tr gM⟩
        simp only [l_X12_people_30]
        simp (disch := omega) only [qn0, qn1, qn2, qn3, qn4, qn5, qn6, qn7, qn8, qn9, qn10, qn11, qn12, qn13, qn14, qn15, qn16, qn17, qn18, qn24, qn30, qn31, qn32, qn33, qn36, qn38, qn40, qn41, qn42, qn43, qn45, qn47, qn48, qn49, qn50, qn51, qn52, qn53, qn57, qn58, qn59, qn60, qn61, qn62, qn63, qn91, qn93, qn97, qn99, qn100, qn103, qn104, qn112, qn113, qn115, qn116, qn118, qn119, qn121, qn124, qn173, qn177, qn240, qn255, qn295, qn352, qn353, qn533, qn999, qn1000, qn1023, qn6561, qn10000, qn20787, qn1000000, qn252645135, qn858993459, qn1000000000, qn1431655765, q_s1, q_s2, q_s3, q_s4, q_s5, iI_add, iI_sub, iI_mul, iI_neg, q_lt, q_le, q_eq, qz0, qz1, qz2, qz3, if_pos, if_neg, reduceIte, f_X12_caseOf, CN.la, e0, e1, e2, e3, e4, z]
      · have z := ma_pb_n (s := s) (T := T) (V := V) (x := x) (i := i) (by unfold ma_pi; rw [if_neg (by omega), if_neg (by omega)]; omega)
        refine ⟨(ma_pb s T V x (i + 1), N1), ?_, rfl, hM.tr gM⟩
        simp only [l_X12_people_30]
        simp (disch := omega) only [qn0, qn1, qn2, qn3, qn4, qn5, qn6, qn7, qn8, qn9, qn10, qn11, qn12, qn13, qn14, qn15, qn16, qn17, qn18, qn24, qn30, qn31, qn32, qn33, qn36, qn38, qn40, qn41, qn42, qn43, qn45, qn47, qn48, qn49, qn50, qn51, qn52, qn53, qn57, qn58, qn59, qn60, qn61, qn62, qn63, qn91, qn93, qn97, qn99, qn100, qn103, qn104, qn112, qn113, qn115, qn116, qn118, qn119, qn121, qn124, qn173, qn177, qn240, qn255, qn295, qn352, qn353, qn533, qn999, qn1000, qn1023, qn6561, qn10000, qn20787, qn1000000, qn252645135, qn858993459, qn1000000000, qn1431655765, q_s1, q_s2, q_s3, q_s4, q_s5, iI_add, iI_sub, iI_mul, iI_neg, q_lt, q_le, q_eq, qz0, qz1, qz2, qz3, if_pos, if_neg, reduceIte, f_X12_caseOf, CN.la, e0, e1, e2, e3, e4, z])
    (by
      rintro f ⟨a0, N⟩ ⟨ha, hM⟩
      simp only at ha hM
      subst ha
      have CN := D.ag W.2.1 hM
      refine ⟨(ma_pb s T V x (T 3 0).toNat, iI ((T 3 0).toNat : Nat), N), ?_, N, rfl, hM⟩
      simp only [l_X12_people_30]
      simp (disch := omega) only [qn0, qn1, qn2, qn3, qn4, qn5, qn6, qn7, qn8, qn9, qn10, qn11, qn12, qn13, qn14, qn15, qn16, qn17, qn18, qn24, qn30, qn31, qn32, qn33, qn36, qn38, qn40, qn41, qn42, qn43, qn45, qn47, qn48, qn49, qn50, qn51, qn52, qn53, qn57, qn58, qn59, qn60, qn61, qn62, qn63, qn91, qn93, qn97, qn99, qn100, qn103, qn104, qn112, qn113, qn115, qn116, qn118, qn119, qn121, qn124, qn173, qn177, qn240, qn255, qn295, qn352, qn353, qn533, qn999, qn1000, qn1023, qn6561, qn10000, qn20787, qn1000000, qn252645135, qn858993459, qn1000000000, qn1431655765, q_s1, q_s2, q_s3, q_s4, q_s5, iI_add, iI_sub, iI_mul, iI_neg, q_lt, q_le, q_eq, qz0, qz1, qz2, qz3, if_pos, if_neg, reduceIte, CN.fo])
  obtain ⟨M1, rfl, g⟩ := hr
  exact ⟨M1, e, g⟩
end Ops2
theorem s_wronged : gl_S_wronged ma_Inv := by
  intro M L hI x1
  have hI0 := hI
  obtain ⟨s, T, V, W, C, D⟩ := hI
  have w := W.2.1
  obtain ⟨f1, f2, f3, f4, f5, f6, f7, f8, f9, f10, f11, f12, f13, f14, -⟩ := W.2.1
  have D1 := ma_D0 D w (iI 0)
  obtain ⟨z, z1, z2, rfl⟩ := q_any x1
  have e0 : ∀ N, ma_C s T V N → 0 ≤ z → f_X4_has N (iI z) = some (if T 3 4 ≤ z then iI 0 else iI 1) := by
    intro N CN h0
    unfold f_X4_has
    simp (disch := omega) only [qn0, qn1, qn2, qn3, qn4, qn5, qn6, qn7, qn8, qn9, qn10, qn11, qn12, qn13, qn14, qn15, qn16, qn17, qn18, qn24, qn30, qn31, qn32, qn33, qn36, qn38, qn40, qn41, qn42, qn43, qn45, qn47, qn48, qn49, qn50, qn51, qn52, qn53, qn57, qn58, qn59, qn60, qn61, qn62, qn63, qn91, qn93, qn97, qn99, qn100, qn103, qn104, qn112, qn113, qn115, qn116, qn118, qn119, qn121, qn124, qn173, qn177, qn240, qn255, qn295, qn352, qn353, qn533, qn999, qn1000, qn1023, qn6561, qn10000, qn20787, qn1000000, qn252645135, qn858993459, qn1000000000, qn1431655765, q_s1, q_s2, q_s3, q_s4, q_s5, iI_add, iI_sub, iI_mul, iI_neg, q_lt, q_le, q_eq, qz0, qz1, qz2, qz3, if_pos, if_neg, reduceIte, CN.lm]
  rcases (by omega : T 3 0 = 0 ∨ 0 < T 3 0) with c | c
  · refine ⟨iI (-1), M, gs_up M 147 0 (iI 0), ?_, ?_, hI0.ag (ma_g0 iv_ag.rf _)⟩
    · unfold f_X11_wronged
      simp (disch := omega) only [qn0, qn1, qn2, qn3, qn4, qn5, qn6, qn7, qn8, qn9, qn10, qn11, qn12, qn13, qn14, qn15, qn16, qn17, qn18, qn24, qn30, qn31, qn32, qn33, qn36, qn38, qn40, qn41, qn42, qn43, qn45, qn47, qn48, qn49, qn50, qn51, qn52, qn53, qn57, qn58, qn59, qn60, qn61, qn62, qn63, qn91, qn93, qn97, qn99, qn100, qn103, qn104, qn112, qn113, qn115, qn116, qn118, qn119, qn121, qn124, qn173, qn177, qn240, qn255, qn295, qn352, qn353, qn533, qn999, qn1000, qn1023, qn6561, qn10000, qn20787, qn1000000, qn252645135, qn858993459, qn1000000000, qn1431655765, qj0, qj1, qj2, qj4, qj7, qj8, qj9, qj10, qj30, qj100, qj1000, qj1000000, qj1000000000, qj1442695040888963407, qj6364136223846793005, q_s1, q_s2, q_s3, q_s4, q_s5, iI_add, iI_sub, iI_mul, iI_neg, q_lt, q_le, q_eq, jI_add, jI_sub, jI_mul, jI_neg, jI_of, jI_to, j_le0, j_ge0, j_lt0, j_gt0, j_eq0, q_dvl, qz0, qz1, qz2, qz3, if_pos, if_neg, reduceIte, c_town0 C c]
    · unfold f_X12_wronged
      simp (disch := omega) only [qn0, qn1, qn2, qn3, qn4, qn5, qn6, qn7, qn8, qn9, qn10, qn11, qn12, qn13, qn14, qn15, qn16, qn17, qn18, qn24, qn30, qn31, qn32, qn33, qn36, qn38, qn40, qn41, qn42, qn43, qn45, qn47, qn48, qn49, qn50, qn51, qn52, qn53, qn57, qn58, qn59, qn60, qn61, qn62, qn63, qn91, qn93, qn97, qn99, qn100, qn103, qn104, qn112, qn113, qn115, qn116, qn118, qn119, qn121, qn124, qn173, qn177, qn240, qn255, qn295, qn352, qn353, qn533, qn999, qn1000, qn1023, qn6561, qn10000, qn20787, qn1000000, qn252645135, qn858993459, qn1000000000, qn1431655765, qj0, qj1, qj2, qj4, qj7, qj8, qj9, qj10, qj30, qj100, qj1000, qj1000000, qj1000000000, qj1442695040888963407, qj6364136223846793005, q_s1, q_s2, q_s3, q_s4, q_s5, iI_add, iI_sub, iI_mul, iI_neg, q_lt, q_le, q_eq, jI_add, jI_sub, jI_mul, jI_neg, jI_of, jI_to, j_le0, j_ge0, j_lt0, j_gt0, j_eq0, q_dvl, qz0, qz1, qz2, qz3, if_pos, if_neg, reduceIte, D1.fo]
  rcases (by omega : z < -1 ∨ T 3 4 ≤ z ∨ z = -1 ∨ (0 ≤ z ∧ z < T 3 4)) with d | d | d | d
  · have e1 : f_X4_has M (iI z) = some (iI 0) := by
      unfold f_X4_has
      simp (disch := omega) only [qn0, qn1, qn2, qn3, qn4, qn5, qn6, qn7, qn8, qn9, qn10, qn11, qn12, qn13, qn14, qn15, qn16, qn17, qn18, qn24, qn30, qn31, qn32, qn33, qn36, qn38, qn40, qn41, qn42, qn43, qn45, qn47, qn48, qn49, qn50, qn51, qn52, qn53, qn57, qn58, qn59, qn60, qn61, qn62, qn63, qn91, qn93, qn97, qn99, qn100, qn103, qn104, qn112, qn113, qn115, qn116, qn118, qn119, qn121, qn124, qn173, qn177, qn240, qn255, qn295, qn352, qn353, qn533, qn999, qn1000, qn1023, qn6561, qn10000, qn20787, qn1000000, qn252645135, qn858993459, qn1000000000, qn1431655765, q_s1, q_s2, q_s3, q_s4, q_s5, iI_add, iI_sub, iI_mul, iI_neg, q_lt, q_le, q_eq, qz0, qz1, qz2, qz3, if_pos, if_neg, reduceIte, C.lm]
    refine ⟨iI (-1), M, gs_up M 147 0 (iI 0), ?_, ?_, hI0.ag (ma_g0 iv_ag.rf _)⟩
    · unfold f_X11_wronged
      simp (disch := omega) only [qn0, qn1, qn2, qn3, qn4, qn5, qn6, qn7, qn8, qn9, qn10, qn11, qn12, qn13, qn14, qn15, qn16, qn17, qn18, qn24, qn30, qn31, qn32, qn33, qn36, qn38, qn40, qn41, qn42, qn43, qn45, qn47, qn48, qn49, qn50, qn51, qn52, qn53, qn57, qn58, qn59, qn60, qn61, qn62, qn63, qn91, qn93, qn97, qn99, qn100, qn103, qn104, qn112, qn113, qn115, qn116, qn118, qn119, qn121, qn124, qn173, qn177, qn240, qn255, qn295, qn352, qn353, qn533, qn999, qn1000, qn1023, qn6561, qn10000, qn20787, qn1000000, qn252645135, qn858993459, qn1000000000, qn1431655765, qj0, qj1, qj2, qj4, qj7, qj8, qj9, qj10, qj30, qj100, qj1000, qj1000000, qj1000000000, qj1442695040888963407, qj6364136223846793005, q_s1, q_s2, q_s3, q_s4, q_s5, iI_add, iI_sub, iI_mul, iI_neg, q_lt, q_le, q_eq, jI_add, jI_sub, jI_mul, jI_neg, jI_of, jI_to, j_le0, j_ge0, j_lt0, j_gt0, j_eq0, q_dvl, qz0, qz1, qz2, qz3, if_pos, if_neg, reduceIte, c_town1 w C c, e1]
    · unfold f_X12_wronged
      simp (disch := omega) only [qn0, qn1, qn2, qn3, qn4, qn5, qn6, qn7, qn8, qn9, qn10, qn11, qn12, qn13, qn14, qn15, qn16, qn17, qn18, qn24, qn30, qn31, qn32, qn33, qn36, qn38, qn40, qn41, qn42, qn43, qn45, qn47, qn48, qn49, qn50, qn51, qn52, qn53, qn57, qn58, qn59, qn60, qn61, qn62, qn63, qn91, qn93, qn97, qn99, qn100, qn103, qn104, qn112, qn113, qn115, qn116, qn118, qn119, qn121, qn124, qn173, qn177, qn240, qn255, qn295, qn352, qn353, qn533, qn999, qn1000, qn1023, qn6561, qn10000, qn20787, qn1000000, qn252645135, qn858993459, qn1000000000, qn1431655765, qj0, qj1, qj2, qj4, qj7, qj8, qj9, qj10, qj30, qj100, qj1000, qj1000000, qj1000000000, qj1442695040888963407, qj6364136223846793005, q_s1, q_s2, q_s3, q_s4, q_s5, iI_add, iI_sub, iI_mul, iI_neg, q_lt, q_le, q_eq, jI_add, jI_sub, jI_mul, jI_neg, jI_of, jI_to, j_le0, j_ge0, j_lt0, j_gt0, j_eq0, q_dvl, qz0, qz1, qz2, qz3, if_pos, if_neg, reduceIte, D1.fo, D1.lm, m_isOut]
  · have e1 := e0 M C (by omega)
    refine ⟨iI (-1), M, gs_up M 147 0 (iI 0), ?_, ?_, hI0.ag (ma_g0 iv_ag.rf _)⟩
    · unfold f_X11_wronged
      simp (disch := omega) only [qn0, qn1, qn2, qn3, qn4, qn5, qn6, qn7, qn8, qn9, qn10, qn11, qn12, qn13, qn14, qn15, qn16, qn17, qn18, qn24, qn30, qn31, qn32, qn33, qn36, qn38, qn40, qn41, qn42, qn43, qn45, qn47, qn48, qn49, qn50, qn51, qn52, qn53, qn57, qn58, qn59, qn60, qn61, qn62, qn63, qn91, qn93, qn97, qn99, qn100, qn103, qn104, qn112, qn113, qn115, qn116, qn118, qn119, qn121, qn124, qn173, qn177, qn240, qn255, qn295, qn352, qn353, qn533, qn999, qn1000, qn1023, qn6561, qn10000, qn20787, qn1000000, qn252645135, qn858993459, qn1000000000, qn1431655765, qj0, qj1, qj2, qj4, qj7, qj8, qj9, qj10, qj30, qj100, qj1000, qj1000000, qj1000000000, qj1442695040888963407, qj6364136223846793005, q_s1, q_s2, q_s3, q_s4, q_s5, iI_add, iI_sub, iI_mul, iI_neg, q_lt, q_le, q_eq, jI_add, jI_sub, jI_mul, jI_neg, jI_of, jI_to, j_le0, j_ge0, j_lt0, j_gt0, j_eq0, q_dvl, qz0, qz1, qz2, qz3, if_pos, if_neg, reduceIte, c_town1 w C c, e1]
    · unfold f_X12_wronged
      simp (disch := omega) only [qn0, qn1, qn2, qn3, qn4, qn5, qn6, qn7, qn8, qn9, qn10, qn11, qn12, qn13, qn14, qn15, qn16, qn17, qn18, qn24, qn30, qn31, qn32, qn33, qn36, qn38, qn40, qn41, qn42, qn43, qn45, qn47, qn48, qn49, qn50, qn51, qn52, qn53, qn57, qn58, qn59, qn60, qn61, qn62, qn63, qn91, qn93, qn97, qn99, qn100, qn103, qn104, qn112, qn113, qn115, qn116, qn118, qn119, qn121, qn124, qn173, qn177, qn240, qn255, qn295, qn352, qn353, qn533, qn999, qn1000, qn1023, qn6561, qn10000, qn20787, qn1000000, qn252645135, qn858993459, qn1000000000, qn1431655765, qj0, qj1, qj2, qj4, qj7, qj8, qj9, qj10, qj30, qj100, qj1000, qj1000000, qj1000000000, qj1442695040888963407, qj6364136223846793005, q_s1, q_s2, q_s3, q_s4, q_s5, iI_add, iI_sub, iI_mul, iI_neg, q_lt, q_le, q_eq, jI_add, jI_sub, jI_mul, jI_neg, jI_of, jI_to, j_le0, j_ge0, j_lt0, j_gt0, j_eq0, q_dvl, qz0, qz1, qz2, qz3, if_pos, if_neg, reduceIte, D1.fo, D1.lm, m_isOut]
  · obtain ⟨M1, e1, g1⟩ := c_wy W C (l := z) (by omega)
    have D2 := ma_D0 (D.ag w g1) w (iI 0)
    obtain ⟨M2, e2, g2⟩ := m_wy W D2 (l := z) (by omega)
    refine ⟨iI (ma_wy s T V z), M1, M2, ?_, ?_, hI0.ag ((ma_g0 g1 _).tr g2)⟩
    · unfold f_X11_wronged
      simp (disch := omega) only [qn0, qn1, qn2, qn3, qn4, qn5, qn6, qn7, qn8, qn9, qn10, qn11, qn12, qn13, qn14, qn15, qn16, qn17, qn18, qn24, qn30, qn31, qn32, qn33, qn36, qn38, qn40, qn41, qn42, qn43, qn45, qn47, qn48, qn49, qn50, qn51, qn52, qn53, qn57, qn58, qn59, qn60, qn61, qn62, qn63, qn91, qn93, qn97, qn99, qn100, qn103, qn104, qn112, qn113, qn115, qn116, qn118, qn119, qn121, qn124, qn173, qn177, qn240, qn255, qn295, qn352, qn353, qn533, qn999, qn1000, qn1023, qn6561, qn10000, qn20787, qn1000000, qn252645135, qn858993459, qn1000000000, qn1431655765, qj0, qj1, qj2, qj4, qj7, qj8, qj9, qj10, qj30, qj100, qj1000, qj1000000, qj1000000000, qj1442695040888963407, qj6364136223846793005, q_s1, q_s2, q_s3, q_s4, q_s5, iI_add, iI_sub, iI_mul, iI_neg, q_lt, q_le, q_eq, jI_add, jI_sub, jI_mul, jI_neg, jI_of, jI_to, j_le0, j_ge0, j_lt0, j_gt0, j_eq0, q_dvl, qz0, qz1, qz2, qz3, if_pos, if_neg, reduceIte, c_town1 w C c, e1]
    · unfold f_X12_wronged
      simp (disch := omega) only [qn0, qn1, qn2, qn3, qn4, qn5, qn6, qn7, qn8, qn9, qn10, qn11, qn12, qn13, qn14, qn15, qn16, qn17, qn18, qn24, qn30, qn31, qn32, qn33, qn36, qn38, qn40, qn41, qn42, qn43, qn45, qn47, qn48, qn49, qn50, qn51, qn52, qn53, qn57, qn58, qn59, qn60, qn61, qn62, qn63, qn91, qn93, qn97, qn99, qn100, qn103, qn104, qn112, qn113, qn115, qn116, qn118, qn119, qn121, qn124, qn173, qn177, qn240, qn255, qn295, qn352, qn353, qn533, qn999, qn1000, qn1023, qn6561, qn10000, qn20787, qn1000000, qn252645135, qn858993459, qn1000000000, qn1431655765, qj0, qj1, qj2, qj4, qj7, qj8, qj9, qj10, qj30, qj100, qj1000, qj1000000, qj1000000000, qj1442695040888963407, qj6364136223846793005, q_s1, q_s2, q_s3, q_s4, q_s5, iI_add, iI_sub, iI_mul, iI_neg, q_lt, q_le, q_eq, jI_add, jI_sub, jI_mul, jI_neg, jI_of, jI_to, j_le0, j_ge0, j_lt0, j_gt0, j_eq0, q_dvl, qz0, qz1, qz2, qz3, if_pos, if_neg, reduceIte, D2.fo, D2.lm, m_isIn, e2]
  · have e3 := e0 M C (by omega)
    obtain ⟨M1, e1, g1⟩ := c_wy W C (l := z) (by omega)
    have D2 := ma_D0 (D.ag w g1) w (iI 0)
    obtain ⟨M2, e2, g2⟩ := m_wy W D2 (l := z) (by omega)
    refine ⟨iI (ma_wy s T V z), M1, M2, ?_, ?_, hI0.ag ((ma_g0 g1 _).tr g2)⟩
    · unfold f_X11_wronged
      simp (disch := omega) only [qn0, qn1, qn2, qn3, qn4, qn5, qn6, qn7, qn8, qn9, qn10, qn11, qn12, qn13, qn14, qn15, qn16, qn17, qn18, qn24, qn30, qn31, qn32, qn33, qn36, qn38, qn40, qn41, qn42, qn43, qn45, qn47, qn48, qn49, qn50, qn51, qn52, qn53, qn57, qn58, qn59, qn60, qn61, qn62, qn63, qn91, qn93, qn97, qn99, qn100, qn103, qn104, qn112, qn113, qn115, qn116, qn118, qn119, qn121, qn124, qn173, qn177, qn240, qn255, qn295, qn352, qn353, qn533, qn999, qn1000, qn1023, qn6561, qn10000, qn20787, qn1000000, qn252645135, qn858993459, qn1000000000, qn1431655765, qj0, qj1, qj2, qj4, qj7, qj8, qj9, qj10, qj30, qj100, qj1000, qj1000000, qj1000000000, qj1442695040888963407, qj6364136223846793005, q_s1, q_s2, q_s3, q_s4, q_s5, iI_add, iI_sub, iI_mul, iI_neg, q_lt, q_le, q_eq, jI_add, jI_sub, jI_mul, jI_neg, jI_of, jI_to, j_le0, j_ge0, j_lt0, j_gt0, j_eq0, q_dvl, qz0, qz1, qz2, qz3, if_pos, if_neg, reduceIte, c_town1 w C c, e1, e3]
    · unfold f_X12_wronged
      simp (disch := omega) only [qn0, qn1, qn2, qn3, qn4, qn5, qn6, qn7, qn8, qn9, qn10, qn11, qn12, qn13, qn14, qn15, qn16, qn17, qn18, qn24, qn30, qn31, qn32, qn33, qn36, qn38, qn40, qn41, qn42, qn43, qn45, qn47, qn48, qn49, qn50, qn51, qn52, qn53, qn57, qn58, qn59, qn60, qn61, qn62, qn63, qn91, qn93, qn97, qn99, qn100, qn103, qn104, qn112, qn113, qn115, qn116, qn118, qn119, qn121, qn124, qn173, qn177, qn240, qn255, qn295, qn352, qn353, qn533, qn999, qn1000, qn1023, qn6561, qn10000, qn20787, qn1000000, qn252645135, qn858993459, qn1000000000, qn1431655765, qj0, qj1, qj2, qj4, qj7, qj8, qj9, qj10, qj30, qj100, qj1000, qj1000000, qj1000000000, qj1442695040888963407, qj6364136223846793005, q_s1, q_s2, q_s3, q_s4, q_s5, iI_add, iI_sub, iI_mul, iI_neg, q_lt, q_le, q_eq, jI_add, jI_sub, jI_mul, jI_neg, jI_of, jI_to, j_le0, j_ge0, j_lt0, j_gt0, j_eq0, q_dvl, qz0, qz1, qz2, qz3, if_pos, if_neg, reduceIte, D2.fo, D2.lm, m_isIn, e2]
theorem s_better : gl_S_better ma_Inv := by
  intro M L hI
  have hI0 := hI
  obtain ⟨s, T, V, W, C, D⟩ := hI
  have w := W.2.1
  obtain ⟨f1, f2, f3, f4, f5, f6, f7, f8, f9, f10, f11, f12, f13, f14, -⟩ := W.2.1
  have D1 := ma_D0 D w (iI 0)
  rcases (by omega : T 3 0 = 0 ∨ 0 < T 3 0) with c | c
  · refine ⟨iI (-1), M, gs_up M 147 0 (iI 0), ?_, ?_, hI0.ag (ma_g0 iv_ag.rf _)⟩
    · unfold f_X11_better
      simp (disch := omega) only [qn0, qn1, qn2, qn3, qn4, qn5, qn6, qn7, qn8, qn9, qn10, qn11, qn12, qn13, qn14, qn15, qn16, qn17, qn18, qn24, qn30, qn31, qn32, qn33, qn36, qn38, qn40, qn41, qn42, qn43, qn45, qn47, qn48, qn49, qn50, qn51, qn52, qn53, qn57, qn58, qn59, qn60, qn61, qn62, qn63, qn91, qn93, qn97, qn99, qn100, qn103, qn104, qn112, qn113, qn115, qn116, qn118, qn119, qn121, qn124, qn173, qn177, qn240, qn255, qn295, qn352, qn353, qn533, qn999, qn1000, qn1023, qn6561, qn10000, qn20787, qn1000000, qn252645135, qn858993459, qn1000000000, qn1431655765, qj0, qj1, qj2, qj4, qj7, qj8, qj9, qj10, qj30, qj100, qj1000, qj1000000, qj1000000000, qj1442695040888963407, qj6364136223846793005, q_s1, q_s2, q_s3, q_s4, q_s5, iI_add, iI_sub, iI_mul, iI_neg, q_lt, q_le, q_eq, jI_add, jI_sub, jI_mul, jI_neg, jI_of, jI_to, j_le0, j_ge0, j_lt0, j_gt0, j_eq0, q_dvl, qz0, qz1, qz2, qz3, if_pos, if_neg, reduceIte, c_town0 C c]
    · unfold f_X12_better
      simp (disch := omega) only [qn0, qn1, qn2, qn3, qn4, qn5, qn6, qn7, qn8, qn9, qn10, qn11, qn12, qn13, qn14, qn15, qn16, qn17, qn18, qn24, qn30, qn31, qn32, qn33, qn36, qn38, qn40, qn41, qn42, qn43, qn45, qn47, qn48, qn49, qn50, qn51, qn52, qn53, qn57, qn58, qn59, qn60, qn61, qn62, qn63, qn91, qn93, qn97, qn99, qn100, qn103, qn104, qn112, qn113, qn115, qn116, qn118, qn119, qn121, qn124, qn173, qn177, qn240, qn255, qn295, qn352, qn353, qn533, qn999, qn1000, qn1023, qn6561, qn10000, qn20787, qn1000000, qn252645135, qn858993459, qn1000000000, qn1431655765, qj0, qj1, qj2, qj4, qj7, qj8, qj9, qj10, qj30, qj100, qj1000, qj1000000, qj1000000000, qj1442695040888963407, qj6364136223846793005, q_s1, q_s2, q_s3, q_s4, q_s5, iI_add, iI_sub, iI_mul, iI_neg, q_lt, q_le, q_eq, jI_add, jI_sub, jI_mul, jI_neg, jI_of, jI_to, j_le0, j_ge0, j_lt0, j_gt0, j_eq0, q_dvl, qz0, qz1, qz2, qz3, if_pos, if_neg, reduceIte, D1.fo]
  obtain ⟨M1, e1, g1⟩ := c_bt_l W C
  have z3 : iI (if 0 = 0 then -1 else (ma_bt s T V 0 : Int)) = iI (-1) := rfl
  have z4 : iI (if 0 = 0 then 0 else ma_wy s T V (ma_bt s T V 0)) = iI 0 := rfl
  rw [z3, z4] at e1
  have D2 := ma_D0 (D.ag w g1) w (iI 0)
  rcases (by omega : T 3 4 = 0 ∨ 0 < T 3 4) with d | d
  · rw [if_pos (by omega)] at e1
    refine ⟨iI (-1), M1, gs_up M1 147 0 (iI 0), ?_, ?_, hI0.ag (ma_g0 g1 _)⟩
    · unfold f_X11_better
      simp (disch := omega) only [qn0, qn1, qn2, qn3, qn4, qn5, qn6, qn7, qn8, qn9, qn10, qn11, qn12, qn13, qn14, qn15, qn16, qn17, qn18, qn24, qn30, qn31, qn32, qn33, qn36, qn38, qn40, qn41, qn42, qn43, qn45, qn47, qn48, qn49, qn50, qn51, qn52, qn53, qn57, qn58, qn59, qn60, qn61, qn62, qn63, qn91, qn93, qn97, qn99, qn100, qn103, qn104, qn112, qn113, qn115, qn116, qn118, qn119, qn121, qn124, qn173, qn177, qn240, qn255, qn295, qn352, qn353, qn533, qn999, qn1000, qn1023, qn6561, qn10000, qn20787, qn1000000, qn252645135, qn858993459, qn1000000000, qn1431655765, qj0, qj1, qj2, qj4, qj7, qj8, qj9, qj10, qj30, qj100, qj1000, qj1000000, qj1000000000, qj1442695040888963407, qj6364136223846793005, q_s1, q_s2, q_s3, q_s4, q_s5, iI_add, iI_sub, iI_mul, iI_neg, q_lt, q_le, q_eq, jI_add, jI_sub, jI_mul, jI_neg, jI_of, jI_to, j_le0, j_ge0, j_lt0, j_gt0, j_eq0, q_dvl, qz0, qz1, qz2, qz3, if_pos, if_neg, reduceIte, c_town1 w C c, e1]
    · unfold f_X12_better
      simp (disch := omega) only [qn0, qn1, qn2, qn3, qn4, qn5, qn6, qn7, qn8, qn9, qn10, qn11, qn12, qn13, qn14, qn15, qn16, qn17, qn18, qn24, qn30, qn31, qn32, qn33, qn36, qn38, qn40, qn41, qn42, qn43, qn45, qn47, qn48, qn49, qn50, qn51, qn52, qn53, qn57, qn58, qn59, qn60, qn61, qn62, qn63, qn91, qn93, qn97, qn99, qn100, qn103, qn104, qn112, qn113, qn115, qn116, qn118, qn119, qn121, qn124, qn173, qn177, qn240, qn255, qn295, qn352, qn353, qn533, qn999, qn1000, qn1023, qn6561, qn10000, qn20787, qn1000000, qn252645135, qn858993459, qn1000000000, qn1431655765, qj0, qj1, qj2, qj4, qj7, qj8, qj9, qj10, qj30, qj100, qj1000, qj1000000, qj1000000000, qj1442695040888963407, qj6364136223846793005, q_s1, q_s2, q_s3, q_s4, q_s5, iI_add, iI_sub, iI_mul, iI_neg, q_lt, q_le, q_eq, jI_add, jI_sub, jI_mul, jI_neg, jI_of, jI_to, j_le0, j_ge0, j_lt0, j_gt0, j_eq0, q_dvl, qz0, qz1, qz2, qz3, if_pos, if_neg, reduceIte, D2.fo, D2.lm]
  · rw [if_neg (by omega)] at e1
    obtain ⟨M2, e2, g2⟩ := m_bt_l W D2 d
    have z5 : iI (ma_bt s T V 1 : Nat) = iI 0 := by rw [show ma_bt s T V 1 = 0 from ma_am_1 _]; rfl
    rw [z5] at e2
    refine ⟨iI (ma_bt s T V (T 3 4).toNat), M1, M2, ?_, ?_, hI0.ag ((ma_g0 g1 _).tr g2)⟩
    · unfold f_X11_better
      simp (disch := omega) only [qn0, qn1, qn2, qn3, qn4, qn5, qn6, qn7, qn8, qn9, qn10, qn11, qn12, qn13, qn14, qn15, qn16, qn17, qn18, qn24, qn30, qn31, qn32, qn33, qn36, qn38, qn40, qn41, qn42, qn43, qn45, qn47, qn48, qn49, qn50, qn51, qn52, qn53, qn57, qn58, qn59, qn60, qn61, qn62, qn63, qn91, qn93, qn97, qn99, qn100, qn103, qn104, qn112, qn113, qn115, qn116, qn118, qn119, qn121, qn124, qn173, qn177, qn240, qn255, qn295, qn352, qn353, qn533, qn999, qn1000, qn1023, qn6561, qn10000, qn20787, qn1000000, qn252645135, qn858993459, qn1000000000, qn1431655765, qj0, qj1, qj2, qj4, qj7, qj8, qj9, qj10, qj30, qj100, qj1000, qj1000000, qj1000000000, qj1442695040888963407, qj6364136223846793005, q_s1, q_s2, q_s3, q_s4, q_s5, iI_add, iI_sub, iI_mul, iI_neg, q_lt, q_le, q_eq, jI_add, jI_sub, jI_mul, jI_neg, jI_of, jI_to, j_le0, j_ge0, j_lt0, j_gt0, j_eq0, q_dvl, qz0, qz1, qz2, qz3, if_pos, if_neg, reduceIte, c_town1 w C c, e1]
    · unfold f_X12_better
      simp (disch := omega) only [qn0, qn1, qn2, qn3, qn4, qn5, qn6, qn7, qn8, qn9, qn10, qn11, qn12, qn13, qn14, qn15, qn16, qn17, qn18, qn24, qn30, qn31, qn32, qn33, qn36, qn38, qn40, qn41, qn42, qn43, qn45, qn47, qn48, qn49, qn50, qn51, qn52, qn53, qn57, qn58, qn59, qn60, qn61, qn62, qn63, qn91, qn93, qn97, qn99, qn100, qn103, qn104, qn112, qn113, qn115, qn116, qn118, qn119, qn121, qn124, qn173, qn177, qn240, qn255, qn295, qn352, qn353, qn533, qn999, qn1000, qn1023, qn6561, qn10000, qn20787, qn1000000, qn252645135, qn858993459, qn1000000000, qn1431655765, qj0, qj1, qj2, qj4, qj7, qj8, qj9, qj10, qj30, qj100, qj1000, qj1000000, qj1000000000, qj1442695040888963407, qj6364136223846793005, q_s1, q_s2, q_s3, q_s4, q_s5, iI_add, iI_sub, iI_mul, iI_neg, q_lt, q_le, q_eq, jI_add, jI_sub, jI_mul, jI_neg, jI_of, jI_to, j_le0, j_ge0, j_lt0, j_gt0, j_eq0, q_dvl, qz0, qz1, qz2, qz3, if_pos, if_neg, reduceIte, D2.fo, D2.lm, e2]
theorem s_people : gl_S_people ma_Inv := by
  intro M L hI x1
  have hI0 := hI
  obtain ⟨s, T, V, W, C, D⟩ := hI
  have w := W.2.1
  obtain ⟨f1, f2, f3, f4, f5, f6, f7, f8, f9, f10, f11, f12, f13, f14, -⟩ := W.2.1
  have D1 := ma_D0 D w (iI 0)
  obtain ⟨z, z1, z2, rfl⟩ := q_any x1
  rcases (by omega : T 3 0 = 0 ∨ 0 < T 3 0) with c | c
  · refine ⟨iI (-1), M, gs_up M 147 0 (iI 0), ?_, ?_, hI0.ag (ma_g0 iv_ag.rf _)⟩
    · unfold f_X11_people
      simp (disch := omega) only [qn0, qn1, qn2, qn3, qn4, qn5, qn6, qn7, qn8, qn9, qn10, qn11, qn12, qn13, qn14, qn15, qn16, qn17, qn18, qn24, qn30, qn31, qn32, qn33, qn36, qn38, qn40, qn41, qn42, qn43, qn45, qn47, qn48, qn49, qn50, qn51, qn52, qn53, qn57, qn58, qn59, qn60, qn61, qn62, qn63, qn91, qn93, qn97, qn99, qn100, qn103, qn104, qn112, qn113, qn115, qn116, qn118, qn119, qn121, qn124, qn173, qn177, qn240, qn255, qn295, qn352, qn353, qn533, qn999, qn1000, qn1023, qn6561, qn10000, qn20787, qn1000000, qn252645135, qn858993459, qn1000000000, qn1431655765, qj0, qj1, qj2, qj4, qj7, qj8, qj9, qj10, qj30, qj100, qj1000, qj1000000, qj1000000000, qj1442695040888963407, qj6364136223846793005, q_s1, q_s2, q_s3, q_s4, q_s5, iI_add, iI_sub, iI_mul, iI_neg, q_lt, q_le, q_eq, jI_add, jI_sub, jI_mul, jI_neg, jI_of, jI_to, j_le0, j_ge0, j_lt0, j_gt0, j_eq0, q_dvl, qz0, qz1, qz2, qz3, if_pos, if_neg, reduceIte, c_town0 C c]
    · unfold f_X12_people
      simp (disch := omega) only [qn0, qn1, qn2, qn3, qn4, qn5, qn6, qn7, qn8, qn9, qn10, qn11, qn12, qn13, qn14, qn15, qn16, qn17, qn18, qn24, qn30, qn31, qn32, qn33, qn36, qn38, qn40, qn41, qn42, qn43, qn45, qn47, qn48, qn49, qn50, qn51, qn52, qn53, qn57, qn58, qn59, qn60, qn61, qn62, qn63, qn91, qn93, qn97, qn99, qn100, qn103, qn104, qn112, qn113, qn115, qn116, qn118, qn119, qn121, qn124, qn173, qn177, qn240, qn255, qn295, qn352, qn353, qn533, qn999, qn1000, qn1023, qn6561, qn10000, qn20787, qn1000000, qn252645135, qn858993459, qn1000000000, qn1431655765, qj0, qj1, qj2, qj4, qj7, qj8, qj9, qj10, qj30, qj100, qj1000, qj1000000, qj1000000000, qj1442695040888963407, qj6364136223846793005, q_s1, q_s2, q_s3, q_s4, q_s5, iI_add, iI_sub, iI_mul, iI_neg, q_lt, q_le, q_eq, jI_add, jI_sub, jI_mul, jI_neg, jI_of, jI_to, j_le0, j_ge0, j_lt0, j_gt0, j_eq0, q_dvl, qz0, qz1, qz2, qz3, if_pos, if_neg, reduceIte, D1.fo]
  rcases (by omega : z < 0 ∨ 2 < z ∨ (0 ≤ z ∧ z ≤ 2)) with d | d | d
  · refine ⟨iI (-1), M, gs_up M 147 0 (iI 0), ?_, ?_, hI0.ag (ma_g0 iv_ag.rf _)⟩
    · unfold f_X11_people
      simp (disch := omega) only [qn0, qn1, qn2, qn3, qn4, qn5, qn6, qn7, qn8, qn9, qn10, qn11, qn12, qn13, qn14, qn15, qn16, qn17, qn18, qn24, qn30, qn31, qn32, qn33, qn36, qn38, qn40, qn41, qn42, qn43, qn45, qn47, qn48, qn49, qn50, qn51, qn52, qn53, qn57, qn58, qn59, qn60, qn61, qn62, qn63, qn91, qn93, qn97, qn99, qn100, qn103, qn104, qn112, qn113, qn115, qn116, qn118, qn119, qn121, qn124, qn173, qn177, qn240, qn255, qn295, qn352, qn353, qn533, qn999, qn1000, qn1023, qn6561, qn10000, qn20787, qn1000000, qn252645135, qn858993459, qn1000000000, qn1431655765, qj0, qj1, qj2, qj4, qj7, qj8, qj9, qj10, qj30, qj100, qj1000, qj1000000, qj1000000000, qj1442695040888963407, qj6364136223846793005, q_s1, q_s2, q_s3, q_s4, q_s5, iI_add, iI_sub, iI_mul, iI_neg, q_lt, q_le, q_eq, jI_add, jI_sub, jI_mul, jI_neg, jI_of, jI_to, j_le0, j_ge0, j_lt0, j_gt0, j_eq0, q_dvl, qz0, qz1, qz2, qz3, if_pos, if_neg, reduceIte, c_town1 w C c]
    · unfold f_X12_people
      simp (disch := omega) only [qn0, qn1, qn2, qn3, qn4, qn5, qn6, qn7, qn8, qn9, qn10, qn11, qn12, qn13, qn14, qn15, qn16, qn17, qn18, qn24, qn30, qn31, qn32, qn33, qn36, qn38, qn40, qn41, qn42, qn43, qn45, qn47, qn48, qn49, qn50, qn51, qn52, qn53, qn57, qn58, qn59, qn60, qn61, qn62, qn63, qn91, qn93, qn97, qn99, qn100, qn103, qn104, qn112, qn113, qn115, qn116, qn118, qn119, qn121, qn124, qn173, qn177, qn240, qn255, qn295, qn352, qn353, qn533, qn999, qn1000, qn1023, qn6561, qn10000, qn20787, qn1000000, qn252645135, qn858993459, qn1000000000, qn1431655765, qj0, qj1, qj2, qj4, qj7, qj8, qj9, qj10, qj30, qj100, qj1000, qj1000000, qj1000000000, qj1442695040888963407, qj6364136223846793005, q_s1, q_s2, q_s3, q_s4, q_s5, iI_add, iI_sub, iI_mul, iI_neg, q_lt, q_le, q_eq, jI_add, jI_sub, jI_mul, jI_neg, jI_of, jI_to, j_le0, j_ge0, j_lt0, j_gt0, j_eq0, q_dvl, qz0, qz1, qz2, qz3, if_pos, if_neg, reduceIte, D1.fo, m_isOut]
  · refine ⟨iI (-1), M, gs_up M 147 0 (iI 0), ?_, ?_, hI0.ag (ma_g0 iv_ag.rf _)⟩
    · unfold f_X11_people
      simp (disch := omega) only [qn0, qn1, qn2, qn3, qn4, qn5, qn6, qn7, qn8, qn9, qn10, qn11, qn12, qn13, qn14, qn15, qn16, qn17, qn18, qn24, qn30, qn31, qn32, qn33, qn36, qn38, qn40, qn41, qn42, qn43, qn45, qn47, qn48, qn49, qn50, qn51, qn52, qn53, qn57, qn58, qn59, qn60, qn61, qn62, qn63, qn91, qn93, qn97, qn99, qn100, qn103, qn104, qn112, qn113, qn115, qn116, qn118, qn119, qn121, qn124, qn173, qn177, qn240, qn255, qn295, qn352, qn353, qn533, qn999, qn1000, qn1023, qn6561, qn10000, qn20787, qn1000000, qn252645135, qn858993459, qn1000000000, qn1431655765, qj0, qj1, qj2, qj4, qj7, qj8, qj9, qj10, qj30, qj100, qj1000, qj1000000, qj1000000000, qj1442695040888963407, qj6364136223846793005, q_s1, q_s2, q_s3, q_s4, q_s5, iI_add, iI_sub, iI_mul, iI_neg, q_lt, q_le, q_eq, jI_add, jI_sub, jI_mul, jI_neg, jI_of, jI_to, j_le0, j_ge0, j_lt0, j_gt0, j_eq0, q_dvl, qz0, qz1, qz2, qz3, if_pos, if_neg, reduceIte, c_town1 w C c]
    · unfold f_X12_people
      simp (disch := omega) only [qn0, qn1, qn2, qn3, qn4, qn5, qn6, qn7, qn8, qn9, qn10, qn11, qn12, qn13, qn14, qn15, qn16, qn17, qn18, qn24, qn30, qn31, qn32, qn33, qn36, qn38, qn40, qn41, qn42, qn43, qn45, qn47, qn48, qn49, qn50, qn51, qn52, qn53, qn57, qn58, qn59, qn60, qn61, qn62, qn63, qn91, qn93, qn97, qn99, qn100, qn103, qn104, qn112, qn113, qn115, qn116, qn118, qn119, qn121, qn124, qn173, qn177, qn240, qn255, qn295, qn352, qn353, qn533, qn999, qn1000, qn1023, qn6561, qn10000, qn20787, qn1000000, qn252645135, qn858993459, qn1000000000, qn1431655765, qj0, qj1, qj2, qj4, qj7, qj8, qj9, qj10, qj30, qj100, qj1000, qj1000000, qj1000000000, qj1442695040888963407, qj6364136223846793005, q_s1, q_s2, q_s3, q_s4, q_s5, iI_add, iI_sub, iI_mul, iI_neg, q_lt, q_le, q_eq, jI_add, jI_sub, jI_mul, jI_neg, jI_of, jI_to, j_le0, j_ge0, j_lt0, j_gt0, j_eq0, q_dvl, qz0, qz1, qz2, qz3, if_pos, if_neg, reduceIte, D1.fo, m_isOut]
  · obtain ⟨M1, e1, g1⟩ := c_pb_l W C d
    have D2 := ma_D0 (D.ag w g1) w (iI 0)
    obtain ⟨M2, e2, g2⟩ := m_pb_l W D2 d
    have z3 : ma_pb s T V z 0 = iI 0 := rfl
    rw [z3] at e1 e2
    refine ⟨ma_pb s T V z (T 3 0).toNat, M1, M2, ?_, ?_, hI0.ag ((ma_g0 g1 _).tr g2)⟩
    · unfold f_X11_people
      simp (disch := omega) only [qn0, qn1, qn2, qn3, qn4, qn5, qn6, qn7, qn8, qn9, qn10, qn11, qn12, qn13, qn14, qn15, qn16, qn17, qn18, qn24, qn30, qn31, qn32, qn33, qn36, qn38, qn40, qn41, qn42, qn43, qn45, qn47, qn48, qn49, qn50, qn51, qn52, qn53, qn57, qn58, qn59, qn60, qn61, qn62, qn63, qn91, qn93, qn97, qn99, qn100, qn103, qn104, qn112, qn113, qn115, qn116, qn118, qn119, qn121, qn124, qn173, qn177, qn240, qn255, qn295, qn352, qn353, qn533, qn999, qn1000, qn1023, qn6561, qn10000, qn20787, qn1000000, qn252645135, qn858993459, qn1000000000, qn1431655765, qj0, qj1, qj2, qj4, qj7, qj8, qj9, qj10, qj30, qj100, qj1000, qj1000000, qj1000000000, qj1442695040888963407, qj6364136223846793005, q_s1, q_s2, q_s3, q_s4, q_s5, iI_add, iI_sub, iI_mul, iI_neg, q_lt, q_le, q_eq, jI_add, jI_sub, jI_mul, jI_neg, jI_of, jI_to, j_le0, j_ge0, j_lt0, j_gt0, j_eq0, q_dvl, qz0, qz1, qz2, qz3, if_pos, if_neg, reduceIte, c_town1 w C c, e1]
    · unfold f_X12_people
      simp (disch := omega) only [qn0, qn1, qn2, qn3, qn4, qn5, qn6, qn7, qn8, qn9, qn10, qn11, qn12, qn13, qn14, qn15, qn16, qn17, qn18, qn24, qn30, qn31, qn32, qn33, qn36, qn38, qn40, qn41, qn42, qn43, qn45, qn47, qn48, qn49, qn50, qn51, qn52, qn53, qn57, qn58, qn59, qn60, qn61, qn62, qn63, qn91, qn93, qn97, qn99, qn100, qn103, qn104, qn112, qn113, qn115, qn116, qn118, qn119, qn121, qn124, qn173, qn177, qn240, qn255, qn295, qn352, qn353, qn533, qn999, qn1000, qn1023, qn6561, qn10000, qn20787, qn1000000, qn252645135, qn858993459, qn1000000000, qn1431655765, qj0, qj1, qj2, qj4, qj7, qj8, qj9, qj10, qj30, qj100, qj1000, qj1000000, qj1000000000, qj1442695040888963407, qj6364136223846793005, q_s1, q_s2, q_s3, q_s4, q_s5, iI_add, iI_sub, iI_mul, iI_neg, q_lt, q_le, q_eq, jI_add, jI_sub, jI_mul, jI_neg, jI_of, jI_to, j_le0, j_ge0, j_lt0, j_gt0, j_eq0, q_dvl, qz0, qz1, qz2, qz3, if_pos, if_neg, reduceIte, D2.fo, m_isIn, e2]
