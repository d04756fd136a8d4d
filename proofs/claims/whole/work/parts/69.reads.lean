/-! operations that read alone -/
section Reads
variable {s : Nat → Int} {T : Nat → Nat → Int} {V : ma_V} {M : gs_M}
theorem c_hasW (w : ma_wT T) (C : ma_C s T V M) {k : Nat} (hk : (k : Int) < T 3 5) : f_X10_has M (iI k) = some (iI 1) := by
  obtain ⟨f1, f2, f3, f4, f5, f6, f7, f8, f9, f10, -⟩ := w
  unfold f_X10_has
  simp (disch := omega) only [qn0, qn1, qn2, qn3, qn4, qn5, qn6, qn7, qn8, qn9, qn10, qn11, qn12, qn13, qn14, qn15, qn16, qn17, qn18, qn24, qn30, qn31, qn32, qn33, qn36, qn38, qn40, qn41, qn42, qn43, qn45, qn47, qn48, qn49, qn50, qn51, qn52, qn53, qn57, qn58, qn59, qn60, qn61, qn62, qn63, qn91, qn93, qn97, qn99, qn100, qn103, qn104, qn112, qn113, qn115, qn116, qn118, qn119, qn121, qn124, qn173, qn177, qn240, qn255, qn295, qn352, qn353, qn533, qn999, qn1000, qn1023, qn6561, qn10000, qn20787, qn1000000, qn252645135, qn858993459, qn1000000000, qn1431655765, q_s1, q_s2, q_s3, q_s4, q_s5, iI_add, iI_sub, iI_mul, iI_neg, q_lt, q_le, q_eq, qz0, qz1, qz2, qz3, if_pos, if_neg, reduceIte, C.wm]
theorem m_hasW (w : ma_wT T) (C : ma_M s T V M) {k : Nat} (hk : (k : Int) < T 3 5) : f_X12_isWatch M (iI k) = some (iI 1) := by
  obtain ⟨f1, f2, f3, f4, f5, f6, f7, f8, f9, f10, -⟩ := w
  unfold f_X12_isWatch
  simp (disch := omega) only [qn0, qn1, qn2, qn3, qn4, qn5, qn6, qn7, qn8, qn9, qn10, qn11, qn12, qn13, qn14, qn15, qn16, qn17, qn18, qn24, qn30, qn31, qn32, qn33, qn36, qn38, qn40, qn41, qn42, qn43, qn45, qn47, qn48, qn49, qn50, qn51, qn52, qn53, qn57, qn58, qn59, qn60, qn61, qn62, qn63, qn91, qn93, qn97, qn99, qn100, qn103, qn104, qn112, qn113, qn115, qn116, qn118, qn119, qn121, qn124, qn173, qn177, qn240, qn255, qn295, qn352, qn353, qn533, qn999, qn1000, qn1023, qn6561, qn10000, qn20787, qn1000000, qn252645135, qn858993459, qn1000000000, qn1431655765, q_s1, q_s2, q_s3, q_s4, q_s5, iI_add, iI_sub, iI_mul, iI_neg, q_lt, q_le, q_eq, qz0, qz1, qz2, qz3, if_pos, if_neg, reduceIte, C.wm]
theorem ma_isW (W : ma_W s T V) (x : Int32) : ((∀ M, ma_C s T V M → f_X10_has M x = some (iI 0)) ∧ (∀ M, ma_M s T V M → f_X12_isWatch M x = some (iI 0))) ∨ ∃ p : Nat, (p : Int) < T 3 5 ∧ p < 4 ∧ x = iI p := by
  obtain ⟨f1, f2, f3, f4, f5, f6, f7, f8, f9, f10, -⟩ := W.2.1
  obtain ⟨z, z1, z2, rfl⟩ := q_any x
  rcases (by omega : z < 0 ∨ (0 ≤ z ∧ T 3 5 ≤ z) ∨ (0 ≤ z ∧ z < T 3 5)) with c | c | c
  · left
    refine ⟨fun M C => ?_, fun M C => ?_⟩
    · unfold f_X10_has
      simp (disch := omega) only [qn0, qn1, qn2, qn3, qn4, qn5, qn6, qn7, qn8, qn9, qn10, qn11, qn12, qn13, qn14, qn15, qn16, qn17, qn18, qn24, qn30, qn31, qn32, qn33, qn36, qn38, qn40, qn41, qn42, qn43, qn45, qn47, qn48, qn49, qn50, qn51, qn52, qn53, qn57, qn58, qn59, qn60, qn61, qn62, qn63, qn91, qn93, qn97, qn99, qn100, qn103, qn104, qn112, qn113, qn115, qn116, qn118, qn119, qn121, qn124, qn173, qn177, qn240, qn255, qn295, qn352, qn353, qn533, qn999, qn1000, qn1023, qn6561, qn10000, qn20787, qn1000000, qn252645135, qn858993459, qn1000000000, qn1431655765, q_s1, q_s2, q_s3, q_s4, q_s5, iI_add, iI_sub, iI_mul, iI_neg, q_lt, q_le, q_eq, qz0, qz1, qz2, qz3, if_pos, if_neg, reduceIte, C.wm]
    · unfold f_X12_isWatch
      simp (disch := omega) only [qn0, qn1, qn2, qn3, qn4, qn5, qn6, qn7, qn8, qn9, qn10, qn11, qn12, qn13, qn14, qn15, qn16, qn17, qn18, qn24, qn30, qn31, qn32, qn33, qn36, qn38, qn40, qn41, qn42, qn43, qn45, qn47, qn48, qn49, qn50, qn51, qn52, qn53, qn57, qn58, qn59, qn60, qn61, qn62, qn63, qn91, qn93, qn97, qn99, qn100, qn103, qn104, qn112, qn113, qn115, qn116, qn118, qn119, qn121, qn124, qn173, qn177, qn240, qn255, qn295, qn352, qn353, qn533, qn999, qn1000, qn1023, qn6561, qn10000, qn20787, qn1000000, qn252645135, qn858993459, qn1000000000, qn1431655765, q_s1, q_s2, q_s3, q_s4, q_s5, iI_add, iI_sub, iI_mul, iI_neg, q_lt, q_le, q_eq, qz0, qz1, qz2, qz3, if_pos, if_neg, reduceIte, C.wm]
  · left
    refine ⟨fun M C => ?_, fun M C => ?_⟩
    · unfold f_X10_has
      simp (disch := omega) only [qn0, qn1, qn2, qn3, qn4, qn5, qn6, qn7, qn8, qn9, qn10, qn11, qn12, qn13, qn14, qn15, qn16, qn17, qn18, qn24, qn30, qn31, qn32, qn33, qn36, qn38, qn40, qn41, qn42, qn43, qn45, qn47, qn48, qn49, qn50, qn51, qn52, qn53, qn57, qn58, qn59, qn60, qn61, qn62, qn63, qn91, qn93, qn97, qn99, qn100, qn103, qn104, qn112, qn113, qn115, qn116, qn118, qn119, qn121, qn124, qn173, qn177, qn240, qn255, qn295, qn352, qn353, qn533, qn999, qn1000, qn1023, qn6561, qn10000, qn20787, qn1000000, qn252645135, qn858993459, qn1000000000, qn1431655765, q_s1, q_s2, q_s3, q_s4, q_s5, iI_add, iI_sub, iI_mul, iI_neg, q_lt, q_le, q_eq, qz0, qz1, qz2, qz3, if_pos, if_neg, reduceIte, C.wm]
    · unfold f_X12_isWatch
      simp (disch := omega) only [qn0, qn1, qn2, qn3, qn4, qn5, qn6, qn7, qn8, qn9, qn10, qn11, qn12, qn13, qn14, qn15, qn16, qn17, qn18, qn24, qn30, qn31, qn32, qn33, qn36, qn38, qn40, qn41, qn42, qn43, qn45, qn47, qn48, qn49, qn50, qn51, qn52, qn53, qn57, qn58, qn59, qn60, qn61, qn62, qn63, qn91, qn93, qn97, qn99, qn100, qn103, qn104, qn112, qn113, qn115, qn116, qn118, qn119, qn121, qn124, qn173, qn177, qn240, qn255, qn295, qn352, qn353, qn533, qn999, qn1000, qn1023, qn6561, qn10000, qn20787, qn1000000, qn252645135, qn858993459, qn1000000000, qn1431655765, q_s1, q_s2, q_s3, q_s4, q_s5, iI_add, iI_sub, iI_mul, iI_neg, q_lt, q_le, q_eq, qz0, qz1, qz2, qz3, if_pos, if_neg, reduceIte, C.wm]
  · exact Or.inr ⟨z.toNat, by omega, by omega, by congr 1; omega⟩
theorem c_toldAt (w : ma_wT T) (C : ma_C s T V M) {k h : Nat} (hk : (k : Int) < T 3 5) (hh : h < 9) : f_X10_toldAt M (iI k) (iI h) = some (iI (T 5 (9 * k + h))) := by
  obtain ⟨f1, f2, f3, f4, f5, f6, f7, f8, f9, f10, -⟩ := w
  unfold f_X10_toldAt
  rw [qn9, iI_mul, iI_add, q_rdn (9 * k + h) (by omega) (by omega) (by decide), gs_s1, C.wt hk hh]
theorem m_watB (w : ma_wT T) (C : ma_M s T V M) {k h : Nat} (hk : (k : Int) < T 3 5) (hh : h < 9) : f_X12_watchedBy M (iI k) (iI h) = some (iI (T 5 (9 * k + h))) := by
  obtain ⟨f1, f2, f3, f4, f5, f6, f7, f8, f9, f10, -⟩ := w
  obtain ⟨n, n9, e1, e2⟩ := C.wt hk
  have e3 : gs_rd M 157 5 (iI k) = some (iI n) := by rw [q_rdn k rfl (by omega) (by decide), e1]
  obtain ⟨e4, e5⟩ := e2 h hh
  unfold f_X12_watchedBy
  rcases (by omega : h < n ∨ n ≤ h) with c | c
  · obtain ⟨x, x1, x2, e6, e7⟩ := e4 c
    have e8 : gs_rd M 156 45 (iI (9 * k + h)) = some (iI x) := by rw [q_rdn (9 * k + h) (by omega) (by omega) (by decide), e6]
    rcases (by omega : x = 9 ∨ x < 9) with d | d
    · rw [if_pos d] at e7
      subst d
      simp (disch := omega) only [qn0, qn1, qn2, qn3, qn4, qn5, qn6, qn7, qn8, qn9, qn10, qn11, qn12, qn13, qn14, qn15, qn16, qn17, qn18, qn24, qn30, qn31, qn32, qn33, qn36, qn38, qn40, qn41, qn42, qn43, qn45, qn47, qn48, qn49, qn50, qn51, qn52, qn53, qn57, qn58, qn59, qn60, qn61, qn62, qn63, qn91, qn93, qn97, qn99, qn100, qn103, qn104, qn112, qn113, qn115, qn116, qn118, qn119, qn121, qn124, qn173, qn177, qn240, qn255, qn295, qn352, qn353, qn533, qn999, qn1000, qn1023, qn6561, qn10000, qn20787, qn1000000, qn252645135, qn858993459, qn1000000000, qn1431655765, q_s1, q_s2, q_s3, q_s4, q_s5, iI_add, iI_sub, iI_mul, iI_neg, q_lt, q_le, q_eq, qz0, qz1, qz2, qz3, if_pos, if_neg, reduceIte, e3, e8, e7]
    · rw [if_neg (by omega)] at e7
      simp (disch := omega) only [qn0, qn1, qn2, qn3, qn4, qn5, qn6, qn7, qn8, qn9, qn10, qn11, qn12, qn13, qn14, qn15, qn16, qn17, qn18, qn24, qn30, qn31, qn32, qn33, qn36, qn38, qn40, qn41, qn42, qn43, qn45, qn47, qn48, qn49, qn50, qn51, qn52, qn53, qn57, qn58, qn59, qn60, qn61, qn62, qn63, qn91, qn93, qn97, qn99, qn100, qn103, qn104, qn112, qn113, qn115, qn116, qn118, qn119, qn121, qn124, qn173, qn177, qn240, qn255, qn295, qn352, qn353, qn533, qn999, qn1000, qn1023, qn6561, qn10000, qn20787, qn1000000, qn252645135, qn858993459, qn1000000000, qn1431655765, q_s1, q_s2, q_s3, q_s4, q_s5, iI_add, iI_sub, iI_mul, iI_neg, q_lt, q_le, q_eq, qz0, qz1, qz2, qz3, if_pos, if_neg, reduceIte, e3, e8, e7]
  · have e7 := e5 c
    simp (disch := omega) only [qn0, qn1, qn2, qn3, qn4, qn5, qn6, qn7, qn8, qn9, qn10, qn11, qn12, qn13, qn14, qn15, qn16, qn17, qn18, qn24, qn30, qn31, qn32, qn33, qn36, qn38, qn40, qn41, qn42, qn43, qn45, qn47, qn48, qn49, qn50, qn51, qn52, qn53, qn57, qn58, qn59, qn60, qn61, qn62, qn63, qn91, qn93, qn97, qn99, qn100, qn103, qn104, qn112, qn113, qn115, qn116, qn118, qn119, qn121, qn124, qn173, qn177, qn240, qn255, qn295, qn352, qn353, qn533, qn999, qn1000, qn1023, qn6561, qn10000, qn20787, qn1000000, qn252645135, qn858993459, qn1000000000, qn1431655765, q_s1, q_s2, q_s3, q_s4, q_s5, iI_add, iI_sub, iI_mul, iI_neg, q_lt, q_le, q_eq, qz0, qz1, qz2, qz3, if_pos, if_neg, reduceIte, e3, e7]
theorem c_cell (h : ma_sC s (M 10)) {k : Nat} (hk : k < 51) : gs_rd M 10 173 (iI k) = some (iI (s k)) := by
  rw [q_rdn k rfl (by omega) (by decide), h.1 k hk]
theorem c_now0 (h : ma_sC s (M 10)) : f_X6_now M = some (iI (s 48)) := by
  unfold f_X6_now
  rw [qn48, show gs_rd M 10 173 (iI 48) = some (iI (s 48)) from c_cell h (by decide), gs_s1]
theorem c_rights (h : ma_sC s (M 10)) : f_X6_rights M = some (iI (s 49)) := by
  unfold f_X6_rights
  rw [qn49, show gs_rd M 10 173 (iI 49) = some (iI (s 49)) from c_cell h (by decide), gs_s1]
theorem c_wrongs (h : ma_sC s (M 10)) : f_X6_wrongs M = some (iI (s 50)) := by
  unfold f_X6_wrongs
  rw [qn50, show gs_rd M 10 173 (iI 50) = some (iI (s 50)) from c_cell h (by decide), gs_s1]
theorem c_logs (h : ma_sC s (M 10)) : f_X6_logs M = some (iI (s 352)) := by
  unfold f_X6_logs
  rw [qn52, q_rdn (z := 52) 52 rfl (by decide) (by decide), h.2.2.1, gs_s1]
theorem m_cell (h : ma_sM s (M 158)) {k : Nat} (hk : k < 533) : gs_rd M 158 533 (iI k) = some (iI (s k)) := by
  rw [q_rdn k rfl (by omega) (by decide), h k hk]
theorem m_c48 (h : ma_sM s (M 158)) : gs_rd M 158 533 (iI 48) = some (iI (s 48)) := m_cell h (by decide)
theorem m_c49 (h : ma_sM s (M 158)) : gs_rd M 158 533 (iI 49) = some (iI (s 49)) := m_cell h (by decide)
theorem m_c50 (h : ma_sM s (M 158)) : gs_rd M 158 533 (iI 50) = some (iI (s 50)) := m_cell h (by decide)
theorem m_c352 (h : ma_sM s (M 158)) : gs_rd M 158 533 (iI 352) = some (iI (s 352)) := m_cell h (by decide)
theorem c_sp (w : ma_wT T) (C : ma_C s T V M) {p : Nat} (hp : (p : Int) < T 3 0) : f_X9_spouse M (iI p) = some (iI (if T 2 (5 * p + 4) = 8 then -1 else T 2 (5 * p + 4))) := by
  obtain ⟨f1, f2, f3, f4, f5, -⟩ := w
  have h5 := (f5 p hp).2.2
  have e1 : gs_rd M 5 40 (iI (p * 5 + 4)) = some (iI (T 2 (5 * p + 4))) := by
    rw [q_rdn (5 * p + 4) (by omega) (by omega) (by decide), C.to (by omega)]
  unfold f_X9_spouse
  rcases h5 with c | c <;> simp (disch := omega) only [qn0, qn1, qn2, qn3, qn4, qn5, qn6, qn7, qn8, qn9, qn10, qn11, qn12, qn13, qn14, qn15, qn16, qn17, qn18, qn24, qn30, qn31, qn32, qn33, qn36, qn38, qn40, qn41, qn42, qn43, qn45, qn47, qn48, qn49, qn50, qn51, qn52, qn53, qn57, qn58, qn59, qn60, qn61, qn62, qn63, qn91, qn93, qn97, qn99, qn100, qn103, qn104, qn112, qn113, qn115, qn116, qn118, qn119, qn121, qn124, qn173, qn177, qn240, qn255, qn295, qn352, qn353, qn533, qn999, qn1000, qn1023, qn6561, qn10000, qn20787, qn1000000, qn252645135, qn858993459, qn1000000000, qn1431655765, q_s1, q_s2, q_s3, q_s4, q_s5, iI_add, iI_sub, iI_mul, iI_neg, q_lt, q_le, q_eq, qz0, qz1, qz2, qz3, if_pos, if_neg, reduceIte, e1, C.fo]
theorem m_sp (w : ma_wT T) (C : ma_M s T V M) {p : Nat} (hp : (p : Int) < T 3 0) : f_X12_married M (iI p) = some (iI (if T 2 (5 * p + 4) = 8 then -1 else T 2 (5 * p + 4))) := by
  obtain ⟨f1, f2, f3, f4, f5, -⟩ := w
  have h5 := (f5 p hp).2.2
  have e1 : gs_rd M 154 40 (iI (5 * p + 4)) = some (iI (T 2 (5 * p + 4))) := by
    rw [q_rdn (5 * p + 4) (by omega) (by omega) (by decide), C.to (by omega)]
  unfold f_X12_married
  rcases h5 with c | c <;> simp (disch := omega) only [qn0, qn1, qn2, qn3, qn4, qn5, qn6, qn7, qn8, qn9, qn10, qn11, qn12, qn13, qn14, qn15, qn16, qn17, qn18, qn24, qn30, qn31, qn32, qn33, qn36, qn38, qn40, qn41, qn42, qn43, qn45, qn47, qn48, qn49, qn50, qn51, qn52, qn53, qn57, qn58, qn59, qn60, qn61, qn62, qn63, qn91, qn93, qn97, qn99, qn100, qn103, qn104, qn112, qn113, qn115, qn116, qn118, qn119, qn121, qn124, qn173, qn177, qn240, qn255, qn295, qn352, qn353, qn533, qn999, qn1000, qn1023, qn6561, qn10000, qn20787, qn1000000, qn252645135, qn858993459, qn1000000000, qn1431655765, q_s1, q_s2, q_s3, q_s4, q_s5, iI_add, iI_sub, iI_mul, iI_neg, q_lt, q_le, q_eq, qz0, qz1, qz2, qz3, if_pos, if_neg, reduceIte, e1]
/-- no PERSON, no COUPLE, or a COUPLE -/
theorem ma_isM (W : ma_W s T V) (x : Int32) : ((∀ M, ma_C s T V M → f_X11_isMarried M x = some (iI 0)) ∧ (∀ M, ma_M s T V M → f_X12_isCouple M x = some (iI 0))) ∨ ∃ p q : Nat, (p : Int) < T 3 0 ∧ (q : Int) < T 3 0 ∧ x = iI p ∧ (∀ M, ma_C s T V M → f_X11_isMarried M x = some (iI 1) ∧ f_X9_spouse M x = some (iI q)) ∧ (∀ M, ma_M s T V M → f_X12_isCouple M x = some (iI 1) ∧ f_X12_married M x = some (iI q)) := by
  have w := W.2.1
  obtain ⟨f1, f2, f3, f4, f5, -⟩ := W.2.1
  rcases ma_isP W x with ⟨n1, n2⟩ | ⟨p, hp, p8, rfl⟩
  · left
    refine ⟨fun M C => ?_, fun M C => ?_⟩
    · unfold f_X11_isMarried
      simp (disch := omega) only [qn0, qn1, qn2, qn3, qn4, qn5, qn6, qn7, qn8, qn9, qn10, qn11, qn12, qn13, qn14, qn15, qn16, qn17, qn18, qn24, qn30, qn31, qn32, qn33, qn36, qn38, qn40, qn41, qn42, qn43, qn45, qn47, qn48, qn49, qn50, qn51, qn52, qn53, qn57, qn58, qn59, qn60, qn61, qn62, qn63, qn91, qn93, qn97, qn99, qn100, qn103, qn104, qn112, qn113, qn115, qn116, qn118, qn119, qn121, qn124, qn173, qn177, qn240, qn255, qn295, qn352, qn353, qn533, qn999, qn1000, qn1023, qn6561, qn10000, qn20787, qn1000000, qn252645135, qn858993459, qn1000000000, qn1431655765, q_s1, q_s2, q_s3, q_s4, q_s5, iI_add, iI_sub, iI_mul, iI_neg, q_lt, q_le, q_eq, qz0, qz1, qz2, qz3, if_pos, if_neg, reduceIte, n1 M C]
    · unfold f_X12_isCouple
      simp (disch := omega) only [qn0, qn1, qn2, qn3, qn4, qn5, qn6, qn7, qn8, qn9, qn10, qn11, qn12, qn13, qn14, qn15, qn16, qn17, qn18, qn24, qn30, qn31, qn32, qn33, qn36, qn38, qn40, qn41, qn42, qn43, qn45, qn47, qn48, qn49, qn50, qn51, qn52, qn53, qn57, qn58, qn59, qn60, qn61, qn62, qn63, qn91, qn93, qn97, qn99, qn100, qn103, qn104, qn112, qn113, qn115, qn116, qn118, qn119, qn121, qn124, qn173, qn177, qn240, qn255, qn295, qn352, qn353, qn533, qn999, qn1000, qn1023, qn6561, qn10000, qn20787, qn1000000, qn252645135, qn858993459, qn1000000000, qn1431655765, q_s1, q_s2, q_s3, q_s4, q_s5, iI_add, iI_sub, iI_mul, iI_neg, q_lt, q_le, q_eq, qz0, qz1, qz2, qz3, if_pos, if_neg, reduceIte, n2 M C]
  rcases (f5 p hp).2.2 with c | c
  · left
    refine ⟨fun M C => ?_, fun M C => ?_⟩
    · have e := c_sp w C hp
      rw [if_pos c] at e
      unfold f_X11_isMarried
      simp (disch := omega) only [qn0, qn1, qn2, qn3, qn4, qn5, qn6, qn7, qn8, qn9, qn10, qn11, qn12, qn13, qn14, qn15, qn16, qn17, qn18, qn24, qn30, qn31, qn32, qn33, qn36, qn38, qn40, qn41, qn42, qn43, qn45, qn47, qn48, qn49, qn50, qn51, qn52, qn53, qn57, qn58, qn59, qn60, qn61, qn62, qn63, qn91, qn93, qn97, qn99, qn100, qn103, qn104, qn112, qn113, qn115, qn116, qn118, qn119, qn121, qn124, qn173, qn177, qn240, qn255, qn295, qn352, qn353, qn533, qn999, qn1000, qn1023, qn6561, qn10000, qn20787, qn1000000, qn252645135, qn858993459, qn1000000000, qn1431655765, q_s1, q_s2, q_s3, q_s4, q_s5, iI_add, iI_sub, iI_mul, iI_neg, q_lt, q_le, q_eq, qz0, qz1, qz2, qz3, if_pos, if_neg, reduceIte, c_isP w C hp, e]
    · have e := m_sp w C hp
      rw [if_pos c] at e
      unfold f_X12_isCouple
      simp (disch := omega) only [qn0, qn1, qn2, qn3, qn4, qn5, qn6, qn7, qn8, qn9, qn10, qn11, qn12, qn13, qn14, qn15, qn16, qn17, qn18, qn24, qn30, qn31, qn32, qn33, qn36, qn38, qn40, qn41, qn42, qn43, qn45, qn47, qn48, qn49, qn50, qn51, qn52, qn53, qn57, qn58, qn59, qn60, qn61, qn62, qn63, qn91, qn93, qn97, qn99, qn100, qn103, qn104, qn112, qn113, qn115, qn116, qn118, qn119, qn121, qn124, qn173, qn177, qn240, qn255, qn295, qn352, qn353, qn533, qn999, qn1000, qn1023, qn6561, qn10000, qn20787, qn1000000, qn252645135, qn858993459, qn1000000000, qn1431655765, q_s1, q_s2, q_s3, q_s4, q_s5, iI_add, iI_sub, iI_mul, iI_neg, q_lt, q_le, q_eq, qz0, qz1, qz2, qz3, if_pos, if_neg, reduceIte, m_isP w C hp, e]
  · right
    obtain ⟨q, hq⟩ : ∃ q : Nat, T 2 (5 * p + 4) = q := ⟨(T 2 (5 * p + 4)).toNat, by omega⟩
    refine ⟨p, q, hp, by omega, rfl, fun M C => ?_, fun M C => ?_⟩
    · have e := c_sp w C hp
      rw [if_neg (by omega), hq] at e
      refine ⟨?_, e⟩
      unfold f_X11_isMarried
      simp (disch := omega) only [qn0, qn1, qn2, qn3, qn4, qn5, qn6, qn7, qn8, qn9, qn10, qn11, qn12, qn13, qn14, qn15, qn16, qn17, qn18, qn24, qn30, qn31, qn32, qn33, qn36, qn38, qn40, qn41, qn42, qn43, qn45, qn47, qn48, qn49, qn50, qn51, qn52, qn53, qn57, qn58, qn59, qn60, qn61, qn62, qn63, qn91, qn93, qn97, qn99, qn100, qn103, qn104, qn112, qn113, qn115, qn116, qn118, qn119, qn121, qn124, qn173, qn177, qn240, qn255, qn295, qn352, qn353, qn533, qn999, qn1000, qn1023, qn6561, qn10000, qn20787, qn1000000, qn252645135, qn858993459, qn1000000000, qn1431655765, q_s1, q_s2, q_s3, q_s4, q_s5, iI_add, iI_sub, iI_mul, iI_neg, q_lt, q_le, q_eq, qz0, qz1, qz2, qz3, if_pos, if_neg, reduceIte, c_isP w C hp, e]
    · have e := m_sp w C hp
      rw [if_neg (by omega), hq] at e
      refine ⟨?_, e⟩
      unfold f_X12_isCouple
      simp (disch := omega) only [qn0, qn1, qn2, qn3, qn4, qn5, qn6, qn7, qn8, qn9, qn10, qn11, qn12, qn13, qn14, qn15, qn16, qn17, qn18, qn24, qn30, qn31, qn32, qn33, qn36, qn38, qn40, qn41, qn42, qn43, qn45, qn47, qn48, qn49, qn50, qn51, qn52, qn53, qn57, qn58, qn59, qn60, qn61, qn62, qn63, qn91, qn93, qn97, qn99, qn100, qn103, qn104, qn112, qn113, qn115, qn116, qn118, qn119, qn121, qn124, qn173, qn177, qn240, qn255, qn295, qn352, qn353, qn533, qn999, qn1000, qn1023, qn6561, qn10000, qn20787, qn1000000, qn252645135, qn858993459, qn1000000000, qn1431655765, q_s1, q_s2, q_s3, q_s4, q_s5, iI_add, iI_sub, iI_mul, iI_neg, q_lt, q_le, q_eq, qz0, qz1, qz2, qz3, if_pos, if_neg, reduceIte, m_isP w C hp, e]
def ma_sh (v a b : Int) : Int := -((if v < 0 then 0 else v) / 2) + (if b = 1 then -4 else if a = 1 then 2 else 1)
theorem ma_sh_b {v : Int} (h : -540 ≤ v ∧ v ≤ 540) (a b : Int) : -300 ≤ ma_sh v a b ∧ ma_sh v a b ≤ 300 := by
  unfold ma_sh
  split <;> split <;> (try split) <;> omega
theorem c_sh {v a b : Int} (h : -540 ≤ v ∧ v ≤ 540) (ha : a = 0 ∨ a = 1) (hb : b = 0 ∨ b = 1) : f_X11_share (iI v) (iI a) (iI b) = some (iI (ma_sh v a b)) := by
  unfold f_X11_share ma_sh
  rcases (by omega : v < 0 ∨ 0 ≤ v) with c | c <;> rcases ha with rfl | rfl <;> rcases hb with rfl | rfl <;> simp (disch := omega) only [qn0, qn1, qn2, qn3, qn4, qn5, qn6, qn7, qn8, qn9, qn10, qn11, qn12, qn13, qn14, qn15, qn16, qn17, qn18, qn24, qn30, qn31, qn32, qn33, qn36, qn38, qn40, qn41, qn42, qn43, qn45, qn47, qn48, qn49, qn50, qn51, qn52, qn53, qn57, qn58, qn59, qn60, qn61, qn62, qn63, qn91, qn93, qn97, qn99, qn100, qn103, qn104, qn112, qn113, qn115, qn116, qn118, qn119, qn121, qn124, qn173, qn177, qn240, qn255, qn295, qn352, qn353, qn533, qn999, qn1000, qn1023, qn6561, qn10000, qn20787, qn1000000, qn252645135, qn858993459, qn1000000000, qn1431655765, q_s1, q_s2, q_s3, q_s4, q_s5, iI_add, iI_sub, iI_mul, iI_neg, q_lt, q_le, q_eq, qz0, qz1, qz2, qz3, if_pos, if_neg, reduceIte, q_dv, q_tdiv] <;> congr 2 <;> omega
theorem m_sh (W : ma_W s T V) (C : ma_M s T V M) {p : Nat} (hp : (p : Int) < T 3 0) {a b : Int} (ha : a = 0 ∨ a = 1) (hb : b = 0 ∨ b = 1) : ∃ M1, f_X12_coupleOf M (iI p) (iI a) (iI b) = some (iI (ma_sh (ma_cs s T V (T 3 2) p) a b), M1) ∧ iv_ag M M1 := by
  have f7 := W.2.1.2.2.2.2.2.2.1
  obtain ⟨M1, e, g⟩ := m_case W C hp f7
  have h := ma_cs_b W.1 T V (T 3 2) p
  refine ⟨M1, ?_, g⟩
  unfold f_X12_coupleOf f_X12_caseOf ma_sh
  rcases (by omega : ma_cs s T V (T 3 2) p < 0 ∨ ma_cs s T V (T 3 2) p = 0 ∨ 0 < ma_cs s T V (T 3 2) p) with c | c | c <;> rcases ha with rfl | rfl <;> rcases hb with rfl | rfl <;> simp (disch := omega) only [qn0, qn1, qn2, qn3, qn4, qn5, qn6, qn7, qn8, qn9, qn10, qn11, qn12, qn13, qn14, qn15, qn16, qn17, qn18, qn24, qn30, qn31, qn32, qn33, qn36, qn38, qn40, qn41, qn42, qn43, qn45, qn47, qn48, qn49, qn50, qn51, qn52, qn53, qn57, qn58, qn59, qn60, qn61, qn62, qn63, qn91, qn93, qn97, qn99, qn100, qn103, qn104, qn112, qn113, qn115, qn116, qn118, qn119, qn121, qn124, qn173, qn177, qn240, qn255, qn295, qn352, qn353, qn533, qn999, qn1000, qn1023, qn6561, qn10000, qn20787, qn1000000, qn252645135, qn858993459, qn1000000000, qn1431655765, q_s1, q_s2, q_s3, q_s4, q_s5, iI_add, iI_sub, iI_mul, iI_neg, q_lt, q_le, q_eq, qz0, qz1, qz2, qz3, if_pos, if_neg, reduceIte, C.la, e, q_dv, q_tdiv] <;> congr 3 <;> omega
/-- the first k with a + k b at r or more -/
def ma_lk (a b r : Int) : Nat → Nat → Int
  | 0, _ => -1
  | d + 1, i => if a + i * b < r then ma_lk a b r d (i + 1) else i
theorem ma_lkb {i : Nat} {b : Int} (hi : i ≤ 99) (hb : -9 ≤ b ∧ b ≤ 9) : -900 ≤ i * b ∧ i * b ≤ 900 := by
  have h1 := Int.mul_le_mul_of_nonneg_left (c := (i : Int)) hb.1 (by omega)
  have h2 := Int.mul_le_mul_of_nonneg_left (c := (i : Int)) hb.2 (by omega)
  omega
theorem ma_lk0 (a b r : Int) {i : Nat} (hi : i < 100) : ma_lk a b r (100 - i) i = if a + i * b < r then ma_lk a b r (100 - (i + 1)) (i + 1) else i := by
  obtain ⟨d, e⟩ : ∃ d, 100 - i = d + 1 := ⟨99 - i, by omega⟩
  rw [e, show 100 - (i + 1) = d by omega]
  simp only [ma_lk]
theorem c_lk (C : ma_C s T V M) (w : ma_wT T) (x : Int32) {a b : Int} (ha : -540 ≤ a ∧ a ≤ 540) (hb : -9 ≤ b ∧ b ≤ 9) : l_X11_lacking_30 M x (iI a) (iI b) gs_FU (iI 0) = some (iI (ma_lk a b (T 1 1) 100 0), M) := by
  have f3 := w.2.2.1
  obtain ⟨r, e, hr⟩ := ma_up0 (fun f i (_ : Unit) => l_X11_lacking_30 M x (iI a) (iI b) f i) 100
    (fun i _ => ma_lk a b (T 1 1) (100 - i) i = ma_lk a b (T 1 1) 100 0)
    (fun r => r = (iI (ma_lk a b (T 1 1) 100 0), M)) () (by decide) rfl
    (by
      intro f i _ hi hP
      have h1 := ma_lkb (i := i) (b := b) (by omega) hb
      rw [ma_lk0 a b (T 1 1) hi] at hP
      simp only [l_X11_lacking_30]
      by_cases c : a + i * b < T 1 1
      · left
        rw [if_pos c] at hP
        refine ⟨(), ?_, hP⟩
        simp (disch := omega) only [qn0, qn1, qn2, qn3, qn4, qn5, qn6, qn7, qn8, qn9, qn10, qn11, qn12, qn13, qn14, qn15, qn16, qn17, qn18, qn24, qn30, qn31, qn32, qn33, qn36, qn38, qn40, qn41, qn42, qn43, qn45, qn47, qn48, qn49, qn50, qn51, qn52, qn53, qn57, qn58, qn59, qn60, qn61, qn62, qn63, qn91, qn93, qn97, qn99, qn100, qn103, qn104, qn112, qn113, qn115, qn116, qn118, qn119, qn121, qn124, qn173, qn177, qn240, qn255, qn295, qn352, qn353, qn533, qn999, qn1000, qn1023, qn6561, qn10000, qn20787, qn1000000, qn252645135, qn858993459, qn1000000000, qn1431655765, q_s1, q_s2, q_s3, q_s4, q_s5, iI_add, iI_sub, iI_mul, iI_neg, q_lt, q_le, q_eq, qz0, qz1, qz2, qz3, if_pos, if_neg, reduceIte, c_ruled1 C]
      · right
        rw [if_neg c] at hP
        refine ⟨(iI i, M), ?_, by rw [hP]⟩
        simp (disch := omega) only [qn0, qn1, qn2, qn3, qn4, qn5, qn6, qn7, qn8, qn9, qn10, qn11, qn12, qn13, qn14, qn15, qn16, qn17, qn18, qn24, qn30, qn31, qn32, qn33, qn36, qn38, qn40, qn41, qn42, qn43, qn45, qn47, qn48, qn49, qn50, qn51, qn52, qn53, qn57, qn58, qn59, qn60, qn61, qn62, qn63, qn91, qn93, qn97, qn99, qn100, qn103, qn104, qn112, qn113, qn115, qn116, qn118, qn119, qn121, qn124, qn173, qn177, qn240, qn255, qn295, qn352, qn353, qn533, qn999, qn1000, qn1023, qn6561, qn10000, qn20787, qn1000000, qn252645135, qn858993459, qn1000000000, qn1431655765, q_s1, q_s2, q_s3, q_s4, q_s5, iI_add, iI_sub, iI_mul, iI_neg, q_lt, q_le, q_eq, qz0, qz1, qz2, qz3, if_pos, if_neg, reduceIte, c_ruled1 C])
    (by
      intro f _ hP
      refine ⟨(iI (-1), M), ?_, by rw [← hP]; rfl⟩
      simp only [l_X11_lacking_30]
      simp (disch := omega) only [qn0, qn1, qn2, qn3, qn4, qn5, qn6, qn7, qn8, qn9, qn10, qn11, qn12, qn13, qn14, qn15, qn16, qn17, qn18, qn24, qn30, qn31, qn32, qn33, qn36, qn38, qn40, qn41, qn42, qn43, qn45, qn47, qn48, qn49, qn50, qn51, qn52, qn53, qn57, qn58, qn59, qn60, qn61, qn62, qn63, qn91, qn93, qn97, qn99, qn100, qn103, qn104, qn112, qn113, qn115, qn116, qn118, qn119, qn121, qn124, qn173, qn177, qn240, qn255, qn295, qn352, qn353, qn533, qn999, qn1000, qn1023, qn6561, qn10000, qn20787, qn1000000, qn252645135, qn858993459, qn1000000000, qn1431655765, q_s1, q_s2, q_s3, q_s4, q_s5, iI_add, iI_sub, iI_mul, iI_neg, q_lt, q_le, q_eq, qz0, qz1, qz2, qz3, if_pos, if_neg, reduceIte])
  subst hr
  exact e
theorem m_lk (C : ma_M s T V M) (w : ma_wT T) (x y : Int32) {a b : Int} (ha : -540 ≤ a ∧ a ≤ 540) (hb : -9 ≤ b ∧ b ≤ 9) : l_X12_booked_63 M x y (iI a) (iI b) gs_FU (iI 0) = some (iI (ma_lk a b (T 1 1) 100 0), M) := by
  have f3 := w.2.2.1
  obtain ⟨r, e, hr⟩ := ma_up0 (fun f i (_ : Unit) => l_X12_booked_63 M x y (iI a) (iI b) f i) 100
    (fun i _ => ma_lk a b (T 1 1) (100 - i) i = ma_lk a b (T 1 1) 100 0)
    (fun r => r = (iI (ma_lk a b (T 1 1) 100 0), M)) () (by decide) rfl
    (by
      intro f i _ hi hP
      have h1 := ma_lkb (i := i) (b := b) (by omega) hb
      rw [ma_lk0 a b (T 1 1) hi] at hP
      simp only [l_X12_booked_63]
      by_cases c : a + i * b < T 1 1
      · left
        rw [if_pos c] at hP
        refine ⟨(), ?_, hP⟩
        simp (disch := omega) only [qn0, qn1, qn2, qn3, qn4, qn5, qn6, qn7, qn8, qn9, qn10, qn11, qn12, qn13, qn14, qn15, qn16, qn17, qn18, qn24, qn30, qn31, qn32, qn33, qn36, qn38, qn40, qn41, qn42, qn43, qn45, qn47, qn48, qn49, qn50, qn51, qn52, qn53, qn57, qn58, qn59, qn60, qn61, qn62, qn63, qn91, qn93, qn97, qn99, qn100, qn103, qn104, qn112, qn113, qn115, qn116, qn118, qn119, qn121, qn124, qn173, qn177, qn240, qn255, qn295, qn352, qn353, qn533, qn999, qn1000, qn1023, qn6561, qn10000, qn20787, qn1000000, qn252645135, qn858993459, qn1000000000, qn1431655765, q_s1, q_s2, q_s3, q_s4, q_s5, iI_add, iI_sub, iI_mul, iI_neg, q_lt, q_le, q_eq, qz0, qz1, qz2, qz3, if_pos, if_neg, reduceIte, m_rule1 C]
      · right
        rw [if_neg c] at hP
        refine ⟨(iI i, M), ?_, by rw [hP]⟩
        simp (disch := omega) only [qn0, qn1, qn2, qn3, qn4, qn5, qn6, qn7, qn8, qn9, qn10, qn11, qn12, qn13, qn14, qn15, qn16, qn17, qn18, qn24, qn30, qn31, qn32, qn33, qn36, qn38, qn40, qn41, qn42, qn43, qn45, qn47, qn48, qn49, qn50, qn51, qn52, qn53, qn57, qn58, qn59, qn60, qn61, qn62, qn63, qn91, qn93, qn97, qn99, qn100, qn103, qn104, qn112, qn113, qn115, qn116, qn118, qn119, qn121, qn124, qn173, qn177, qn240, qn255, qn295, qn352, qn353, qn533, qn999, qn1000, qn1023, qn6561, qn10000, qn20787, qn1000000, qn252645135, qn858993459, qn1000000000, qn1431655765, q_s1, q_s2, q_s3, q_s4, q_s5, iI_add, iI_sub, iI_mul, iI_neg, q_lt, q_le, q_eq, qz0, qz1, qz2, qz3, if_pos, if_neg, reduceIte, m_rule1 C])
    (by
      intro f _ hP
      refine ⟨(iI (-1), M), ?_, by rw [← hP]; rfl⟩
      simp only [l_X12_booked_63]
      simp (disch := omega) only [qn0, qn1, qn2, qn3, qn4, qn5, qn6, qn7, qn8, qn9, qn10, qn11, qn12, qn13, qn14, qn15, qn16, qn17, qn18, qn24, qn30, qn31, qn32, qn33, qn36, qn38, qn40, qn41, qn42, qn43, qn45, qn47, qn48, qn49, qn50, qn51, qn52, qn53, qn57, qn58, qn59, qn60, qn61, qn62, qn63, qn91, qn93, qn97, qn99, qn100, qn103, qn104, qn112, qn113, qn115, qn116, qn118, qn119, qn121, qn124, qn173, qn177, qn240, qn255, qn295, qn352, qn353, qn533, qn999, qn1000, qn1023, qn6561, qn10000, qn20787, qn1000000, qn252645135, qn858993459, qn1000000000, qn1431655765, q_s1, q_s2, q_s3, q_s4, q_s5, iI_add, iI_sub, iI_mul, iI_neg, q_lt, q_le, q_eq, qz0, qz1, qz2, qz3, if_pos, if_neg, reduceIte])
  subst hr
  exact e
/-- what the most is asked of -/
def ma_mo (s : Nat → Int) (T : Nat → Nat → Int) (V : ma_V) (x : Int) (p : Nat) : Int := if x = 0 then s (6 * p + 2) else ma_sl s T V p (T 1 0).toNat
theorem ma_am_s (f : Nat → Int) (i : Nat) : ma_am f (i + 1) = if f i ≤ f (ma_am f i) then ma_am f i else i := rfl
theorem c_mo0_l (W : ma_W s T V) (C : ma_C s T V M) : ∃ M1, l_X11_most_25 (iI 0) gs_FU (iI (ma_am (ma_mo s T V 0) 0 : Nat)) (iI (if 0 = 0 then -1 else ma_mo s T V 0 (ma_am (ma_mo s T V 0) 0))) (iI 0) M = some (iI (ma_am (ma_mo s T V 0) (T 3 0).toNat : Nat), iI (if (T 3 0).toNat = 0 then -1 else ma_mo s T V 0 (ma_am (ma_mo s T V 0) (T 3 0).toNat)), iI ((T 3 0).toNat : Nat), M1) ∧ iv_ag M M1 := by
  have f1 := W.2.1.1
  obtain ⟨r, e, hr⟩ := ma_up0 (fun f i (q9 : Int32 × Int32 × gs_M) => l_X11_most_25 (iI 0) f q9.1 q9.2.1 i q9.2.2) ((T 3 0).toNat)
    (fun i q9 => q9.1 = iI (ma_am (ma_mo s T V 0) i : Nat) ∧ q9.2.1 = iI (if i = 0 then -1 else ma_mo s T V 0 (ma_am (ma_mo s T V 0) i)) ∧ iv_ag M q9.2.2)
    (fun r => ∃ M1, r = (iI (ma_am (ma_mo s T V 0) (T 3 0).toNat : Nat), iI (if (T 3 0).toNat = 0 then -1 else ma_mo s T V 0 (ma_am (ma_mo s T V 0) (T 3 0).toNat)), iI ((T 3 0).toNat : Nat), M1) ∧ iv_ag M M1) (iI (ma_am (ma_mo s T V 0) 0 : Nat), iI (if 0 = 0 then -1 else ma_mo s T V 0 (ma_am (ma_mo s T V 0) 0)), M) (by omega)
    ⟨rfl, rfl, iv_ag.rf⟩
    (by
      rintro f i ⟨a0, b0, N⟩ hi ⟨ha, hb, hM⟩
      left
      simp only at ha hb hM
      subst ha
      subst hb
      have CN := C.ag W.2.1 hM
      have i8 : i < 8 := by omega
      have e0 := c_crowd CN
      have e1 : f_X6_of N (iI i) (iI 2) = some (iI (ma_mo s T V 0 i)) := c_of2 CN.st i8
      have hb : ∀ j, j < 8 → 0 ≤ ma_mo s T V 0 j ∧ ma_mo s T V 0 j ≤ 1000000000 := by
        intro j hj
        unfold ma_mo
        rw [if_pos rfl]
        have := W.1.1 j hj
        unfold ma_one at this
        omega
      have b1 := hb i i8
      have b3 : ma_am (ma_mo s T V 0) i ≤ i - 1 := ma_am_b _ i
      have b2 := hb (ma_am (ma_mo s T V 0) i) (by omega)
      rcases (by omega : i = 0 ∨ (0 < i ∧ ma_mo s T V 0 i ≤ ma_mo s T V 0 (ma_am (ma_mo s T V 0) i)) ∨ (0 < i ∧ ma_mo s T V 0 (ma_am (ma_mo s T V 0) i) < ma_mo s T V 0 i)) with c | c | c
      · have z : ma_am (ma_mo s T V 0) (i + 1) = i := by
          rw [c]
          exact ma_am_1 _
        refine ⟨(iI (ma_am (ma_mo s T V 0) (i + 1) : Nat), iI (if (i + 1) = 0 then -1 else ma_mo s T V 0 (ma_am (ma_mo s T V 0) (i + 1))), N), ?_, rfl, rfl, hM⟩
        simp only [l_X11_most_25]
        simp (disch := omega) only [qn0, qn1, qn2, qn3, qn4, qn5, qn6, qn7, qn8, qn9, qn10, qn11, qn12, qn13, qn14, qn15, qn16, qn17, qn18, qn24, qn30, qn31, qn32, qn33, qn36, qn38, qn40, qn41, qn42, qn43, qn45, qn47, qn48, qn49, qn50, qn51, qn52, qn53, qn57, qn58, qn59, qn60, qn61, qn62, qn63, qn91, qn93, qn97, qn99, qn100, qn103, qn104, qn112, qn113, qn115, qn116, qn118, qn119, qn121, qn124, qn173, qn177, qn240, qn255, qn295, qn352, qn353, qn533, qn999, qn1000, qn1023, qn6561, qn10000, qn20787, qn1000000, qn252645135, qn858993459, qn1000000000, qn1431655765, q_s1, q_s2, q_s3, q_s4, q_s5, iI_add, iI_sub, iI_mul, iI_neg, q_lt, q_le, q_eq, qz0, qz1, qz2, qz3, if_pos, if_neg, reduceIte, e0, e1, z]
      · have z := ma_am_s (ma_mo s T V 0) i
        rw [if_pos c.2] at z
        refine ⟨(iI (ma_am (ma_mo s T V 0) (i + 1) : Nat), iI (if (i + 1) = 0 then -1 else ma_mo s T V 0 (ma_am (ma_mo s T V 0) (i + 1))), N), ?_, rfl, rfl, hM⟩
        simp only [l_X11_most_25]
        simp (disch := omega) only [qn0, qn1, qn2, qn3, qn4, qn5, qn6, qn7, qn8, qn9, qn10, qn11, qn12, qn13, qn14, qn15, qn16, qn17, qn18, qn24, qn30, qn31, qn32, qn33, qn36, qn38, qn40, qn41, qn42, qn43, qn45, qn47, qn48, qn49, qn50, qn51, qn52, qn53, qn57, qn58, qn59, qn60, qn61, qn62, qn63, qn91, qn93, qn97, qn99, qn100, qn103, qn104, qn112, qn113, qn115, qn116, qn118, qn119, qn121, qn124, qn173, qn177, qn240, qn255, qn295, qn352, qn353, qn533, qn999, qn1000, qn1023, qn6561, qn10000, qn20787, qn1000000, qn252645135, qn858993459, qn1000000000, qn1431655765, q_s1, q_s2, q_s3, q_s4, q_s5, iI_add, iI_sub, iI_mul, iI_neg, q_lt, q_le, q_eq, qz0, qz1, qz2, qz3, if_pos, if_neg, reduceIte, e0, e1, z]
      · have z := ma_am_s (ma_mo s T V 0) i
        rw [if_neg (by omega)] at z
        refine ⟨(iI (ma_am (ma_mo s T V 0) (i + 1) : Nat), iI (if (i + 1) = 0 then -1 else ma_mo s T V 0 (ma_am (ma_mo s T V 0) (i + 1))), N), ?_, rfl, rfl, hM⟩
        simp only [l_X11_most_25]
        simp (disch := omega) only [qn0, qn1, qn2, qn3, qn4, qn5, qn6, qn7, qn8, qn9, qn10, qn11, qn12, qn13, qn14, qn15, qn16, qn17, qn18, qn24, qn30, qn31, qn32, qn33, qn36, qn38, qn40, qn41, qn42, qn43, qn45, qn47, qn48, qn49, qn50, qn51, qn52, qn53, qn57, qn58, qn59, qn60, qn61, qn62, qn63, qn91, qn93, qn97, qn99, qn100, qn103, qn104, qn112, qn113, qn115, qn116, qn118, qn119, qn121, qn124, qn173, qn177, qn240, qn255, qn295, qn352, qn353, qn533, qn999, qn1000, qn1023, qn6561, qn10000, qn20787, qn1000000, qn252645135, qn858993459, qn1000000000, qn1431655765, q_s1, q_s2, q_s3, q_s4, q_s5, iI_add, iI_sub, iI_mul, iI_neg, q_lt, q_le, q_eq, qz0, qz1, qz2, qz3, if_pos, if_neg, reduceIte, e0, e1, z])
    (by
      rintro f ⟨a0, b0, N⟩ ⟨ha, hb, hM⟩
      simp only at ha hb hM
      subst ha
      subst hb
      have CN := C.ag W.2.1 hM
      refine ⟨(iI (ma_am (ma_mo s T V 0) (T 3 0).toNat : Nat), iI (if (T 3 0).toNat = 0 then -1 else ma_mo s T V 0 (ma_am (ma_mo s T V 0) (T 3 0).toNat)), iI ((T 3 0).toNat : Nat), N), ?_, N, rfl, hM⟩
      simp only [l_X11_most_25]
      simp (disch := omega) only [qn0, qn1, qn2, qn3, qn4, qn5, qn6, qn7, qn8, qn9, qn10, qn11, qn12, qn13, qn14, qn15, qn16, qn17, qn18, qn24, qn30, qn31, qn32, qn33, qn36, qn38, qn40, qn41, qn42, qn43, qn45, qn47, qn48, qn49, qn50, qn51, qn52, qn53, qn57, qn58, qn59, qn60, qn61, qn62, qn63, qn91, qn93, qn97, qn99, qn100, qn103, qn104, qn112, qn113, qn115, qn116, qn118, qn119, qn121, qn124, qn173, qn177, qn240, qn255, qn295, qn352, qn353, qn533, qn999, qn1000, qn1023, qn6561, qn10000, qn20787, qn1000000, qn252645135, qn858993459, qn1000000000, qn1431655765, q_s1, q_s2, q_s3, q_s4, q_s5, iI_add, iI_sub, iI_mul, iI_neg, q_lt, q_le, q_eq, qz0, qz1, qz2, qz3, if_pos, if_neg, reduceIte, c_crowd CN])
  obtain ⟨M1, rfl, g⟩ := hr
  exact ⟨M1, e, g⟩
theorem m_mo0_l (W : ma_W s T V) (D : ma_M s T V M) (h0 : 0 < T 3 0) : ∃ M1, l_X12_most_28 (iI 0) gs_FU (iI (ma_am (ma_mo s T V 0) 1 : Nat)) (iI 1) M = some (iI (ma_am (ma_mo s T V 0) (T 3 0).toNat : Nat), iI ((T 3 0).toNat : Nat), M1) ∧ iv_ag M M1 := by
  have f1 := W.2.1.1
  obtain ⟨r, e, hr⟩ := ma_up1 (fun f i (q9 : Int32 × gs_M) => l_X12_most_28 (iI 0) f q9.1 i q9.2) ((T 3 0).toNat)
    (fun i q9 => q9.1 = iI (ma_am (ma_mo s T V 0) i : Nat) ∧ iv_ag M q9.2)
    (fun r => ∃ M1, r = (iI (ma_am (ma_mo s T V 0) (T 3 0).toNat : Nat), iI ((T 3 0).toNat : Nat), M1) ∧ iv_ag M M1) (iI (ma_am (ma_mo s T V 0) 1 : Nat), M) (by omega) (by omega)
    ⟨rfl, iv_ag.rf⟩
    (by
      rintro f i ⟨a0, N⟩ hi ⟨ha, hM⟩
      left
      simp only at ha hM
      subst ha
      have CN := D.ag W.2.1 hM
      have i8 : i < 8 := by omega
      have e0 := CN.fo
      have b3 : ma_am (ma_mo s T V 0) i ≤ i - 1 := ma_am_b _ i
      have e1 : f_X12_of N (iI i) (iI 2) = some (iI (ma_mo s T V 0 i)) := m_of2 CN.st i8
      have e2 : f_X12_of N (iI (ma_am (ma_mo s T V 0) i : Nat)) (iI 2) = some (iI (ma_mo s T V 0 (ma_am (ma_mo s T V 0) i))) := m_of2 CN.st (by omega)
      have hb : ∀ j, j < 8 → 0 ≤ ma_mo s T V 0 j ∧ ma_mo s T V 0 j ≤ 1000000000 := by
        intro j hj
        unfold ma_mo
        rw [if_pos rfl]
        have := W.1.1 j hj
        unfold ma_one at this
        omega
      have b1 := hb i i8
      have b2 := hb (ma_am (ma_mo s T V 0) i) (by omega)
      rcases (by omega : ma_mo s T V 0 i ≤ ma_mo s T V 0 (ma_am (ma_mo s T V 0) i) ∨ ma_mo s T V 0 (ma_am (ma_mo s T V 0) i) < ma_mo s T V 0 i) with c | c
      · have z := ma_am_s (ma_mo s T V 0) i
        rw [if_pos c] at z
        refine ⟨(iI (ma_am (ma_mo s T V 0) (i + 1) : Nat), N), ?_, rfl, hM⟩
        simp only [l_X12_most_28]
        simp (disch := omega) only [qn0, qn1, qn2, qn3, qn4, qn5, qn6, qn7, qn8, qn9, qn10, qn11, qn12, qn13, qn14, qn15, qn16, qn17, qn18, qn24, qn30, qn31, qn32, qn33, qn36, qn38, qn40, qn41, qn42, qn43, qn45, qn47, qn48, qn49, qn50, qn51, qn52, qn53, qn57, qn58, qn59, qn60, qn61, qn62, qn63, qn91, qn93, qn97, qn99, qn100, qn103, qn104, qn112, qn113, qn115, qn116, qn118, qn119, qn121, qn124, qn173, qn177, qn240, qn255, qn295, qn352, qn353, qn533, qn999, qn1000, qn1023, qn6561, qn10000, qn20787, qn1000000, qn252645135, qn858993459, qn1000000000, qn1431655765, q_s1, q_s2, q_s3, q_s4, q_s5, iI_add, iI_sub, iI_mul, iI_neg, q_lt, q_le, q_eq, qz0, qz1, qz2, qz3, if_pos, if_neg, reduceIte, e0, e1, e2, z]
      · have z := ma_am_s (ma_mo s T V 0) i
        rw [if_neg (by omega)] at z
        refine ⟨(iI (ma_am (ma_mo s T V 0) (i + 1) : Nat), N), ?_, rfl, hM⟩
        simp only [l_X12_most_28]
        simp (disch := omega) only [qn0, qn1, qn2, qn3, qn4, qn5, qn6, qn7, qn8, qn9, qn10, qn11, qn12, qn13, qn14, qn15, qn16, qn17, qn18, qn24, qn30, qn31, qn32, qn33, qn36, qn38, qn40, qn41, qn42, qn43, qn45, qn47, qn48, qn49, qn50, qn51, qn52, qn53, qn57, qn58, qn59, qn60, qn61, qn62, qn63, qn91, qn93, qn97, qn99, qn100, qn103, qn104, qn112, qn113, qn115, qn116, qn118, qn119, qn121, qn124, qn173, qn177, qn240, qn255, qn295, qn352, qn353, qn533, qn999, qn1000, qn1023, qn6561, qn10000, qn20787, qn1000000, qn252645135, qn858993459, qn1000000000, qn1431655765, q_s1, q_s2, q_s3, q_s4, q_s5, iI_add, iI_sub, iI_mul, iI_neg, q_lt, q_le, q_eq, qz0, qz1, qz2, qz3, if_pos, if_neg, reduceIte, e0, e1, e2, z])
    (by
      rintro f ⟨a0, N⟩ ⟨ha, hM⟩
      simp only at ha hM
      subst ha
      have CN := D.ag W.2.1 hM
      refine ⟨(iI (ma_am (ma_mo s T V 0) (T 3 0).toNat : Nat), iI ((T 3 0).toNat : Nat), N), ?_, N, rfl, hM⟩
      simp only [l_X12_most_28]
      simp (disch := omega) only [qn0, qn1, qn2, qn3, qn4, qn5, qn6, qn7, qn8, qn9, qn10, qn11, qn12, qn13, qn14, qn15, qn16, qn17, qn18, qn24, qn30, qn31, qn32, qn33, qn36, qn38, qn40, qn41, qn42, qn43, qn45, qn47, qn48, qn49, qn50, qn51, qn52, qn53, qn57, qn58, qn59, qn60, qn61, qn62, qn63, qn91, qn93, qn97, qn99, qn100, qn103, qn104, qn112, qn113, qn115, qn116, qn118, qn119, qn121, qn124, qn173, qn177, qn240, qn255, qn295, qn352, qn353, qn533, qn999, qn1000, qn1023, qn6561, qn10000, qn20787, qn1000000, qn252645135, qn858993459, qn1000000000, qn1431655765, q_s1, q_s2, q_s3, q_s4, q_s5, iI_add, iI_sub, iI_mul, iI_neg, q_lt, q_le, q_eq, qz0, qz1, qz2, qz3, if_pos, if_neg, reduceIte, CN.fo])
  obtain ⟨M1, rfl, g⟩ := hr
  exact ⟨M1, e, g⟩
theorem c_mo1_l (W : ma_W s T V) (C : ma_C s T V M) : ∃ M1, l_X11_most_25 (iI 1) gs_FU (iI (ma_am (ma_mo s T V 1) 0 : Nat)) (iI (if 0 = 0 then -1 else ma_mo s T V 1 (ma_am (ma_mo s T V 1) 0))) (iI 0) M = some (iI (ma_am (ma_mo s T V 1) (T 3 0).toNat : Nat), iI (if (T 3 0).toNat = 0 then -1 else ma_mo s T V 1 (ma_am (ma_mo s T V 1) (T 3 0).toNat)), iI ((T 3 0).toNat : Nat), M1) ∧ iv_ag M M1 := by
  have f1 := W.2.1.1
  obtain ⟨r, e, hr⟩ := ma_up0 (fun f i (q9 : Int32 × Int32 × gs_M) => l_X11_most_25 (iI 1) f q9.1 q9.2.1 i q9.2.2) ((T 3 0).toNat)
    (fun i q9 => q9.1 = iI (ma_am (ma_mo s T V 1) i : Nat) ∧ q9.2.1 = iI (if i = 0 then -1 else ma_mo s T V 1 (ma_am (ma_mo s T V 1) i)) ∧ iv_ag M q9.2.2)
    (fun r => ∃ M1, r = (iI (ma_am (ma_mo s T V 1) (T 3 0).toNat : Nat), iI (if (T 3 0).toNat = 0 then -1 else ma_mo s T V 1 (ma_am (ma_mo s T V 1) (T 3 0).toNat)), iI ((T 3 0).toNat : Nat), M1) ∧ iv_ag M M1) (iI (ma_am (ma_mo s T V 1) 0 : Nat), iI (if 0 = 0 then -1 else ma_mo s T V 1 (ma_am (ma_mo s T V 1) 0)), M) (by omega)
    ⟨rfl, rfl, iv_ag.rf⟩
    (by
      rintro f i ⟨a0, b0, N⟩ hi ⟨ha, hb, hM⟩
      left
      simp only at ha hb hM
      subst ha
      subst hb
      have CN := C.ag W.2.1 hM
      have i8 : i < 8 := by omega
      have e0 := c_crowd CN
      obtain ⟨N1, e1, gM⟩ := c_sl W CN (p := i) (by omega)
      rw [show ma_sl s T V i (T 1 0).toNat = ma_mo s T V 1 i from rfl] at e1
      have hb : ∀ j, j < 8 → 0 ≤ ma_mo s T V 1 j ∧ ma_mo s T V 1 j ≤ 1000000000 := by
        intro j hj
        unfold ma_mo
        rw [if_neg (by decide)]
        exact ma_sl_b s T V j _
      have b1 := hb i i8
      have b3 : ma_am (ma_mo s T V 1) i ≤ i - 1 := ma_am_b _ i
      have b2 := hb (ma_am (ma_mo s T V 1) i) (by omega)
      rcases (by omega : i = 0 ∨ (0 < i ∧ ma_mo s T V 1 i ≤ ma_mo s T V 1 (ma_am (ma_mo s T V 1) i)) ∨ (0 < i ∧ ma_mo s T V 1 (ma_am (ma_mo s T V 1) i) < ma_mo s T V 1 i)) with c | c | c
      · have z : ma_am (ma_mo s T V 1) (i + 1) = i := by
          rw [c]
          exact ma_am_1 _
        refine ⟨(iI (ma_am (ma_mo s T V 1) (i + 1) : Nat), iI (if (i + 1) = 0 then -1 else ma_mo s T V 1 (ma_am (ma_mo s T V 1) (i + 1))), N1), ?_, rfl, rfl, hM.tr gM⟩
        simp only [l_X11_most_25]
        simp (disch := omega) only [qn0, qn1, qn2, qn3, qn4, qn5, qn6, qn7, qn8, qn9, qn10, qn11, qn12, qn13, qn14, qn15, qn16, qn17, qn18, qn24, qn30, qn31, qn32, qn33, qn36, qn38, qn40, qn41, qn42, qn43, qn45, qn47, qn48, qn49, qn50, qn51, qn52, qn53, qn57, qn58, qn59, qn60, qn61, qn62, qn63, qn91, qn93, qn97, qn99, qn100, qn103, qn104, qn112, qn113, qn115, qn116, qn118, qn119, qn121, qn124, qn173, qn177, qn240, qn255, qn295, qn352, qn353, qn533, qn999, qn1000, qn1023, qn6561, qn10000, qn20787, qn1000000, qn252645135, qn858993459, qn1000000000, qn1431655765, q_s1, q_s2, q_s3, q_s4, q_s5, iI_add, iI_sub, iI_mul, iI_neg, q_lt, q_le, q_eq, qz0, qz1, qz2, qz3, if_pos, if_neg, reduceIte, e0, e1, z]
      · have z := ma_am_s (ma_mo s T V 1) i
        rw [if_pos c.2] at z
        refine ⟨(iI (ma_am (ma_mo s T V 1) (i + 1) : Nat), iI (if (i + 1) = 0 then -1 else ma_mo s T V 1 (ma_am (ma_mo s T V 1) (i + 1))), N1), ?_, rfl, rfl, hM.tr gM⟩
        simp only [l_X11_most_25]
        simp (disch := omega) only [qn0, qn1, qn2, qn3, qn4, qn5, qn6, qn7, qn8, qn9, qn10, qn11, qn12, qn13, qn14, qn15, qn16, qn17, qn18, qn24, qn30, qn31, qn32, qn33, qn36, qn38, qn40, qn41, qn42, qn43, qn45, qn47, qn48, qn49, qn50, qn51, qn52, qn53, qn57, qn58, qn59, qn60, qn61, qn62, qn63, qn91, qn93, qn97, qn99, qn100, qn103, qn104, qn112, qn113, qn115, qn116, qn118, qn119, qn121, qn124, qn173, qn177, qn240, qn255, qn295, qn352, qn353, qn533, qn999, qn1000, qn1023, qn6561, qn10000, qn20787, qn1000000, qn252645135, qn858993459, qn1000000000, qn1431655765, q_s1, q_s2, q_s3, q_s4, q_s5, iI_add, iI_sub, iI_mul, iI_neg, q_lt, q_le, q_eq, qz0, qz1, qz2, qz3, if_pos, if_neg, reduceIte, e0, e1, z]
      · have z := ma_am_s (ma_mo s T V 1) i
        rw [if_neg (by omega)] at z
        refine ⟨(iI (ma_am (ma_mo s T V 1) (i + 1) : Nat), iI (if (i + 1) = 0 then -1 else ma_mo s T V 1 (ma_am (ma_mo s T V 1) (i + 1))), N1), ?_, rfl, rfl, hM.tr gM⟩
        simp only [l_X11_most_25]
        simp (disch := omega) only [qn0, qn1, qn2, qn3, qn4, qn5, qn6, qn7, qn8, qn9, qn10, qn11, qn12, qn13, qn14, qn15, qn16, qn17, qn18, qn24, qn30, qn31, qn32, qn33, qn36, qn38, qn40, qn41, qn42, qn43, qn45, qn47, qn48, qn49, qn50, qn51, qn52, qn53, qn57, qn58, qn59, qn60, qn61, qn62, qn63, qn91, qn93, qn97, qn99, qn100, qn103, qn104, qn112, qn113, qn115, qn116, qn118, qn119, qn121, qn124, qn173, qn177, qn240, qn255, qn295, qn352, qn353, qn533, qn999, qn1000, qn1023, qn6561, qn10000, qn20787, qn1000000, qn252645135, qn858993459, qn1000000000, qn1431655765, q_s1, q_s2, q_s3, q_s4, q_s5, iI_add, iI_sub, iI_mul, iI_neg, q_lt, q_le, q_eq, qz0, qz1, qz2, qz3, if_pos, if_neg, reduceIte, e0, e1, z])
    (by
      rintro f ⟨a0, b0, N⟩ ⟨ha, hb, hM⟩
      simp only at ha hb hM
      subst ha
      subst hb
      have CN := C.ag W.2.1 hM
      refine ⟨(iI (ma_am (ma_mo s T V 1) (T 3 0).toNat : Nat), iI (if (T 3 0).toNat = 0 then -1 else ma_mo s T V 1 (ma_am (ma_mo s T V 1) (T 3 0).toNat)), iI ((T 3 0).toNat : Nat), N), ?_, N, rfl, hM⟩
      simp only [l_X11_most_25]
      simp (disch := omega) only [qn0, qn1, qn2, qn3, qn4, qn5, qn6, qn7, qn8, qn9, qn10, qn11, qn12, qn13, qn14, qn15, qn16, qn17, qn18, qn24, qn30, qn31, qn32, qn33, qn36, qn38, qn40, qn41, qn42, qn43, qn45, qn47, qn48, qn49, qn50, qn51, qn52, qn53, qn57, qn58, qn59, qn60, qn61, qn62, qn63, qn91, qn93, qn97, qn99, qn100, qn103, qn104, qn112, qn113, qn115, qn116, qn118, qn119, qn121, qn124, qn173, qn177, qn240, qn255, qn295, qn352, qn353, qn533, qn999, qn1000, qn1023, qn6561, qn10000, qn20787, qn1000000, qn252645135, qn858993459, qn1000000000, qn1431655765, q_s1, q_s2, q_s3, q_s4, q_s5, iI_add, iI_sub, iI_mul, iI_neg, q_lt, q_le, q_eq, qz0, qz1, qz2, qz3, if_pos, if_neg, reduceIte, c_crowd CN])
  obtain ⟨M1, rfl, g⟩ := hr
  exact ⟨M1, e, g⟩
theorem m_mo1_l (W : ma_W s T V) (D : ma_M s T V M) (h0 : 0 < T 3 0) : ∃ M1, l_X12_most_28 (iI 1) gs_FU (iI (ma_am (ma_mo s T V 1) 1 : Nat)) (iI 1) M = some (iI (ma_am (ma_mo s T V 1) (T 3 0).toNat : Nat), iI ((T 3 0).toNat : Nat), M1) ∧ iv_ag M M1 := by
  have f1 := W.2.1.1
  obtain ⟨r, e, hr⟩ := ma_up1 (fun f i (q9 : Int32 × gs_M) => l_X12_most_28 (iI 1) f q9.1 i q9.2) ((T 3 0).toNat)
    (fun i q9 => q9.1 = iI (ma_am (ma_mo s T V 1) i : Nat) ∧ iv_ag M q9.2)
    (fun r => ∃ M1, r = (iI (ma_am (ma_mo s T V 1) (T 3 0).toNat : Nat), iI ((T 3 0).toNat : Nat), M1) ∧ iv_ag M M1) (iI (ma_am (ma_mo s T V 1) 1 : Nat), M) (by omega) (by omega)
    ⟨rfl, iv_ag.rf⟩
    (by
      rintro f i ⟨a0, N⟩ hi ⟨ha, hM⟩
      left
      simp only at ha hM
      subst ha
      have CN := D.ag W.2.1 hM
      have i8 : i < 8 := by omega
      have e0 := CN.fo
      have b3 : ma_am (ma_mo s T V 1) i ≤ i - 1 := ma_am_b _ i
      obtain ⟨N1, e1, g1⟩ := m_sl W CN (p := i) (by omega)
      obtain ⟨N2, e2, g2⟩ := m_sl W (CN.ag W.2.1 g1) (p := ma_am (ma_mo s T V 1) i) (by omega)
      have gM := g1.tr g2
      rw [show ma_sl s T V i (T 1 0).toNat = ma_mo s T V 1 i from rfl] at e1
      rw [show ma_sl s T V (ma_am (ma_mo s T V 1) i) (T 1 0).toNat = ma_mo s T V 1 (ma_am (ma_mo s T V 1) i) from rfl] at e2
      have hb : ∀ j, j < 8 → 0 ≤ ma_mo s T V 1 j ∧ ma_mo s T V 1 j ≤ 1000000000 := by
        intro j hj
        unfold ma_mo
        rw [if_neg (by decide)]
        exact ma_sl_b s T V j _
      have b1 := hb i i8
      have b2 := hb (ma_am (ma_mo s T V 1) i) (by omega)
      rcases (by omega : ma_mo s T V 1 i ≤ ma_mo s T V 1 (ma_am (ma_mo s T V 1) i) ∨ ma_mo s T V 1 (ma_am (ma_mo s T V 1) i) < ma_mo s T V 1 i) with c | c
      · have z := ma_am_s (ma_mo s T V 1) i
        rw [if_pos c] at z
        refine ⟨(iI (ma_am (ma_mo s T V 1) (i + 1) : Nat), N2), ?_, rfl, hM.tr gM⟩
        simp only [l_X12_most_28]
        simp (disch := omega) only [qn0, qn1, qn2, qn3, qn4, qn5, qn6, qn7, qn8, qn9, qn10, qn11, qn12, qn13, qn14, qn15, qn16, qn17, qn18, qn24, qn30, qn31, qn32, qn33, qn36, qn38, qn40, qn41, qn42, qn43, qn45, qn47, qn48, qn49, qn50, qn51, qn52, qn53, qn57, qn58, qn59, qn60, qn61, qn62, qn63, qn91, qn93, qn97, qn99, qn100, qn103, qn104, qn112, qn113, qn115, qn116, qn118, qn119, qn121, qn124, qn173, qn177, qn240, qn255, qn295, qn352, qn353, qn533, qn999, qn1000, qn1023, qn6561, qn10000, qn20787, qn1000000, qn252645135, qn858993459, qn1000000000, qn1431655765, q_s1, q_s2, q_s3, q_s4, q_s5, iI_add, iI_sub, iI_mul, iI_neg, q_lt, q_le, q_eq, qz0, qz1, qz2, qz3, if_pos, if_neg, reduceIte, e0, e1, e2, z]
      · have z := ma_am_s (ma_mo s T V 1) i
        rw [if_neg (by omega)] at z
        refine ⟨(iI (ma_am (ma_mo s T V 1) (i + 1) : Nat), N2), ?_, rfl, hM.tr gM⟩
        simp only [l_X12_most_28]
        simp (disch := omega) only [qn0, qn1, qn2, qn3, qn4, qn5, qn6, qn7, qn8, qn9, qn10, qn11, qn12, qn13, qn14, qn15, qn16, qn17, qn18, qn24, qn30, qn31, qn32, qn33, qn36, qn38, qn40, qn41, qn42, qn43, qn45, qn47, qn48, qn49, qn50, qn51, qn52, qn53, qn57, qn58, qn59, qn60, qn61, qn62, qn63, qn91, qn93, qn97, qn99, qn100, qn103, qn104, qn112, qn113, qn115, qn116, qn118, qn119, qn121, qn124, qn173, qn177, qn240, qn255, qn295, qn352, qn353, qn533, qn999, qn1000, qn1023, qn6561, qn10000, qn20787, qn1000000, qn252645135, qn858993459, qn1000000000, qn1431655765, q_s1, q_s2, q_s3, q_s4, q_s5, iI_add, iI_sub, iI_mul, iI_neg, q_lt, q_le, q_eq, qz0, qz1, qz2, qz3, if_pos, if_neg, reduceIte, e0, e1, e2, z])
    (by
      rintro f ⟨a0, N⟩ ⟨ha, hM⟩
      simp only at ha hM
      subst ha
      have CN := D.ag W.2.1 hM
      refine ⟨(iI (ma_am (ma_mo s T V 1) (T 3 0).toNat : Nat), iI ((T 3 0).toNat : Nat), N), ?_, N, rfl, hM⟩
      simp only [l_X12_most_28]
      simp (disch := omega) only [qn0, qn1, qn2, qn3, qn4, qn5, qn6, qn7, qn8, qn9, qn10, qn11, qn12, qn13, qn14, qn15, qn16, qn17, qn18, qn24, qn30, qn31, qn32, qn33, qn36, qn38, qn40, qn41, qn42, qn43, qn45, qn47, qn48, qn49, qn50, qn51, qn52, qn53, qn57, qn58, qn59, qn60, qn61, qn62, qn63, qn91, qn93, qn97, qn99, qn100, qn103, qn104, qn112, qn113, qn115, qn116, qn118, qn119, qn121, qn124, qn173, qn177, qn240, qn255, qn295, qn352, qn353, qn533, qn999, qn1000, qn1023, qn6561, qn10000, qn20787, qn1000000, qn252645135, qn858993459, qn1000000000, qn1431655765, q_s1, q_s2, q_s3, q_s4, q_s5, iI_add, iI_sub, iI_mul, iI_neg, q_lt, q_le, q_eq, qz0, qz1, qz2, qz3, if_pos, if_neg, reduceIte, CN.fo])
  obtain ⟨M1, rfl, g⟩ := hr
  exact ⟨M1, e, g⟩
end Reads
theorem s_watched : gl_S_watched ma_Inv := by
  intro M L hI x1 x2
  have hI0 := hI
  obtain ⟨s, T, V, W, C, D⟩ := hI
  have w := W.2.1
  obtain ⟨f1, f2, f3, f4, f5, f6, f7, f8, f9, f10, f11, f12, f13, f14, -⟩ := W.2.1
  have D1 := ma_D0 D w (iI 0)
  rcases ma_isW W x1 with ⟨n1, n2⟩ | ⟨k, hk, k4, rfl⟩
  · refine ⟨iI (-1000000), gs_up M 147 0 (iI 0), ?_, ?_, hI0.ag (ma_g0 iv_ag.rf _)⟩
    · unfold f_X11_watched
      simp (disch := omega) only [qn0, qn1, qn2, qn3, qn4, qn5, qn6, qn7, qn8, qn9, qn10, qn11, qn12, qn13, qn14, qn15, qn16, qn17, qn18, qn24, qn30, qn31, qn32, qn33, qn36, qn38, qn40, qn41, qn42, qn43, qn45, qn47, qn48, qn49, qn50, qn51, qn52, qn53, qn57, qn58, qn59, qn60, qn61, qn62, qn63, qn91, qn93, qn97, qn99, qn100, qn103, qn104, qn112, qn113, qn115, qn116, qn118, qn119, qn121, qn124, qn173, qn177, qn240, qn255, qn295, qn352, qn353, qn533, qn999, qn1000, qn1023, qn6561, qn10000, qn20787, qn1000000, qn252645135, qn858993459, qn1000000000, qn1431655765, qj0, qj1, qj2, qj4, qj7, qj8, qj9, qj10, qj30, qj100, qj1000, qj1000000, qj1000000000, qj1442695040888963407, qj6364136223846793005, q_s1, q_s2, q_s3, q_s4, q_s5, iI_add, iI_sub, iI_mul, iI_neg, q_lt, q_le, q_eq, jI_add, jI_sub, jI_mul, jI_neg, jI_of, jI_to, j_le0, j_ge0, j_lt0, j_gt0, j_eq0, q_dvl, qz0, qz1, qz2, qz3, if_pos, if_neg, reduceIte, n1 M C]
    · unfold f_X12_watched
      simp (disch := omega) only [qn0, qn1, qn2, qn3, qn4, qn5, qn6, qn7, qn8, qn9, qn10, qn11, qn12, qn13, qn14, qn15, qn16, qn17, qn18, qn24, qn30, qn31, qn32, qn33, qn36, qn38, qn40, qn41, qn42, qn43, qn45, qn47, qn48, qn49, qn50, qn51, qn52, qn53, qn57, qn58, qn59, qn60, qn61, qn62, qn63, qn91, qn93, qn97, qn99, qn100, qn103, qn104, qn112, qn113, qn115, qn116, qn118, qn119, qn121, qn124, qn173, qn177, qn240, qn255, qn295, qn352, qn353, qn533, qn999, qn1000, qn1023, qn6561, qn10000, qn20787, qn1000000, qn252645135, qn858993459, qn1000000000, qn1431655765, qj0, qj1, qj2, qj4, qj7, qj8, qj9, qj10, qj30, qj100, qj1000, qj1000000, qj1000000000, qj1442695040888963407, qj6364136223846793005, q_s1, q_s2, q_s3, q_s4, q_s5, iI_add, iI_sub, iI_mul, iI_neg, q_lt, q_le, q_eq, jI_add, jI_sub, jI_mul, jI_neg, jI_of, jI_to, j_le0, j_ge0, j_lt0, j_gt0, j_eq0, q_dvl, qz0, qz1, qz2, qz3, if_pos, if_neg, reduceIte, n2 _ D1]
  obtain ⟨z, z1, z2, rfl⟩ := q_any x2
  rcases (by omega : z < 0 ∨ 8 < z ∨ (0 ≤ z ∧ z ≤ 8)) with d | d | d
  · refine ⟨iI (-1000000), gs_up M 147 0 (iI 0), ?_, ?_, hI0.ag (ma_g0 iv_ag.rf _)⟩
    · unfold f_X11_watched
      simp (disch := omega) only [qn0, qn1, qn2, qn3, qn4, qn5, qn6, qn7, qn8, qn9, qn10, qn11, qn12, qn13, qn14, qn15, qn16, qn17, qn18, qn24, qn30, qn31, qn32, qn33, qn36, qn38, qn40, qn41, qn42, qn43, qn45, qn47, qn48, qn49, qn50, qn51, qn52, qn53, qn57, qn58, qn59, qn60, qn61, qn62, qn63, qn91, qn93, qn97, qn99, qn100, qn103, qn104, qn112, qn113, qn115, qn116, qn118, qn119, qn121, qn124, qn173, qn177, qn240, qn255, qn295, qn352, qn353, qn533, qn999, qn1000, qn1023, qn6561, qn10000, qn20787, qn1000000, qn252645135, qn858993459, qn1000000000, qn1431655765, qj0, qj1, qj2, qj4, qj7, qj8, qj9, qj10, qj30, qj100, qj1000, qj1000000, qj1000000000, qj1442695040888963407, qj6364136223846793005, q_s1, q_s2, q_s3, q_s4, q_s5, iI_add, iI_sub, iI_mul, iI_neg, q_lt, q_le, q_eq, jI_add, jI_sub, jI_mul, jI_neg, jI_of, jI_to, j_le0, j_ge0, j_lt0, j_gt0, j_eq0, q_dvl, qz0, qz1, qz2, qz3, if_pos, if_neg, reduceIte, c_hasW w C hk]
    · unfold f_X12_watched
      simp (disch := omega) only [qn0, qn1, qn2, qn3, qn4, qn5, qn6, qn7, qn8, qn9, qn10, qn11, qn12, qn13, qn14, qn15, qn16, qn17, qn18, qn24, qn30, qn31, qn32, qn33, qn36, qn38, qn40, qn41, qn42, qn43, qn45, qn47, qn48, qn49, qn50, qn51, qn52, qn53, qn57, qn58, qn59, qn60, qn61, qn62, qn63, qn91, qn93, qn97, qn99, qn100, qn103, qn104, qn112, qn113, qn115, qn116, qn118, qn119, qn121, qn124, qn173, qn177, qn240, qn255, qn295, qn352, qn353, qn533, qn999, qn1000, qn1023, qn6561, qn10000, qn20787, qn1000000, qn252645135, qn858993459, qn1000000000, qn1431655765, qj0, qj1, qj2, qj4, qj7, qj8, qj9, qj10, qj30, qj100, qj1000, qj1000000, qj1000000000, qj1442695040888963407, qj6364136223846793005, q_s1, q_s2, q_s3, q_s4, q_s5, iI_add, iI_sub, iI_mul, iI_neg, q_lt, q_le, q_eq, jI_add, jI_sub, jI_mul, jI_neg, jI_of, jI_to, j_le0, j_ge0, j_lt0, j_gt0, j_eq0, q_dvl, qz0, qz1, qz2, qz3, if_pos, if_neg, reduceIte, m_hasW w D1 hk, m_isOut]
  · refine ⟨iI (-1000000), gs_up M 147 0 (iI 0), ?_, ?_, hI0.ag (ma_g0 iv_ag.rf _)⟩
    · unfold f_X11_watched
      simp (disch := omega) only [qn0, qn1, qn2, qn3, qn4, qn5, qn6, qn7, qn8, qn9, qn10, qn11, qn12, qn13, qn14, qn15, qn16, qn17, qn18, qn24, qn30, qn31, qn32, qn33, qn36, qn38, qn40, qn41, qn42, qn43, qn45, qn47, qn48, qn49, qn50, qn51, qn52, qn53, qn57, qn58, qn59, qn60, qn61, qn62, qn63, qn91, qn93, qn97, qn99, qn100, qn103, qn104, qn112, qn113, qn115, qn116, qn118, qn119, qn121, qn124, qn173, qn177, qn240, qn255, qn295, qn352, qn353, qn533, qn999, qn1000, qn1023, qn6561, qn10000, qn20787, qn1000000, qn252645135, qn858993459, qn1000000000, qn1431655765, qj0, qj1, qj2, qj4, qj7, qj8, qj9, qj10, qj30, qj100, qj1000, qj1000000, qj1000000000, qj1442695040888963407, qj6364136223846793005, q_s1, q_s2, q_s3, q_s4, q_s5, iI_add, iI_sub, iI_mul, iI_neg, q_lt, q_le, q_eq, jI_add, jI_sub, jI_mul, jI_neg, jI_of, jI_to, j_le0, j_ge0, j_lt0, j_gt0, j_eq0, q_dvl, qz0, qz1, qz2, qz3, if_pos, if_neg, reduceIte, c_hasW w C hk]
    · unfold f_X12_watched
      simp (disch := omega) only [qn0, qn1, qn2, qn3, qn4, qn5, qn6, qn7, qn8, qn9, qn10, qn11, qn12, qn13, qn14, qn15, qn16, qn17, qn18, qn24, qn30, qn31, qn32, qn33, qn36, qn38, qn40, qn41, qn42, qn43, qn45, qn47, qn48, qn49, qn50, qn51, qn52, qn53, qn57, qn58, qn59, qn60, qn61, qn62, qn63, qn91, qn93, qn97, qn99, qn100, qn103, qn104, qn112, qn113, qn115, qn116, qn118, qn119, qn121, qn124, qn173, qn177, qn240, qn255, qn295, qn352, qn353, qn533, qn999, qn1000, qn1023, qn6561, qn10000, qn20787, qn1000000, qn252645135, qn858993459, qn1000000000, qn1431655765, qj0, qj1, qj2, qj4, qj7, qj8, qj9, qj10, qj30, qj100, qj1000, qj1000000, qj1000000000, qj1442695040888963407, qj6364136223846793005, q_s1, q_s2, q_s3, q_s4, q_s5, iI_add, iI_sub, iI_mul, iI_neg, q_lt, q_le, q_eq, jI_add, jI_sub, jI_mul, jI_neg, jI_of, jI_to, j_le0, j_ge0, j_lt0, j_gt0, j_eq0, q_dvl, qz0, qz1, qz2, qz3, if_pos, if_neg, reduceIte, m_hasW w D1 hk, m_isOut]
  · obtain ⟨h, rfl⟩ : ∃ h : Nat, z = h := ⟨z.toNat, by omega⟩
    refine ⟨iI (T 5 (9 * k + h)), gs_up M 147 0 (iI 0), ?_, ?_, hI0.ag (ma_g0 iv_ag.rf _)⟩
    · unfold f_X11_watched
      simp (disch := omega) only [qn0, qn1, qn2, qn3, qn4, qn5, qn6, qn7, qn8, qn9, qn10, qn11, qn12, qn13, qn14, qn15, qn16, qn17, qn18, qn24, qn30, qn31, qn32, qn33, qn36, qn38, qn40, qn41, qn42, qn43, qn45, qn47, qn48, qn49, qn50, qn51, qn52, qn53, qn57, qn58, qn59, qn60, qn61, qn62, qn63, qn91, qn93, qn97, qn99, qn100, qn103, qn104, qn112, qn113, qn115, qn116, qn118, qn119, qn121, qn124, qn173, qn177, qn240, qn255, qn295, qn352, qn353, qn533, qn999, qn1000, qn1023, qn6561, qn10000, qn20787, qn1000000, qn252645135, qn858993459, qn1000000000, qn1431655765, qj0, qj1, qj2, qj4, qj7, qj8, qj9, qj10, qj30, qj100, qj1000, qj1000000, qj1000000000, qj1442695040888963407, qj6364136223846793005, q_s1, q_s2, q_s3, q_s4, q_s5, iI_add, iI_sub, iI_mul, iI_neg, q_lt, q_le, q_eq, jI_add, jI_sub, jI_mul, jI_neg, jI_of, jI_to, j_le0, j_ge0, j_lt0, j_gt0, j_eq0, q_dvl, qz0, qz1, qz2, qz3, if_pos, if_neg, reduceIte, c_hasW w C hk, c_toldAt w C hk (show h < 9 by omega)]
    · unfold f_X12_watched
      simp (disch := omega) only [qn0, qn1, qn2, qn3, qn4, qn5, qn6, qn7, qn8, qn9, qn10, qn11, qn12, qn13, qn14, qn15, qn16, qn17, qn18, qn24, qn30, qn31, qn32, qn33, qn36, qn38, qn40, qn41, qn42, qn43, qn45, qn47, qn48, qn49, qn50, qn51, qn52, qn53, qn57, qn58, qn59, qn60, qn61, qn62, qn63, qn91, qn93, qn97, qn99, qn100, qn103, qn104, qn112, qn113, qn115, qn116, qn118, qn119, qn121, qn124, qn173, qn177, qn240, qn255, qn295, qn352, qn353, qn533, qn999, qn1000, qn1023, qn6561, qn10000, qn20787, qn1000000, qn252645135, qn858993459, qn1000000000, qn1431655765, qj0, qj1, qj2, qj4, qj7, qj8, qj9, qj10, qj30, qj100, qj1000, qj1000000, qj1000000000, qj1442695040888963407, qj6364136223846793005, q_s1, q_s2, q_s3, q_s4, q_s5, iI_add, iI_sub, iI_mul, iI_neg, q_lt, q_le, q_eq, jI_add, jI_sub, jI_mul, jI_neg, jI_of, jI_to, j_le0, j_ge0, j_lt0, j_gt0, j_eq0, q_dvl, qz0, qz1, qz2, qz3, if_pos, if_neg, reduceIte, m_hasW w D1 hk, m_isIn, m_watB w D1 hk (show h < 9 by omega)]
theorem s_log : gl_S_log ma_Inv := by
  intro M L hI x1 x2
  have hI0 := hI
  obtain ⟨s, T, V, W, C, D⟩ := hI
  have w := W.2.1
  obtain ⟨f1, f2, f3, f4, f5, f6, f7, f8, f9, f10, f11, f12, f13, f14, -⟩ := W.2.1
  have D1 := ma_D0 D w (iI 0)
  obtain ⟨z, z1, z2, rfl⟩ := q_any x1
  obtain ⟨y, y1, y2, rfl⟩ := q_any x2
  have w4 := W.1.2.2.2.1
  have e1 := c_logs C.st
  have e2 := m_c352 D1.st
  rcases (by omega : z < 0 ∨ (0 ≤ z ∧ s 352 ≤ z) ∨ (0 ≤ z ∧ z < s 352)) with c | c | c
  · refine ⟨iI (-1000000), gs_up M 147 0 (iI 0), ?_, ?_, hI0.ag (ma_g0 iv_ag.rf _)⟩
    · unfold f_X11_log
      simp (disch := omega) only [qn0, qn1, qn2, qn3, qn4, qn5, qn6, qn7, qn8, qn9, qn10, qn11, qn12, qn13, qn14, qn15, qn16, qn17, qn18, qn24, qn30, qn31, qn32, qn33, qn36, qn38, qn40, qn41, qn42, qn43, qn45, qn47, qn48, qn49, qn50, qn51, qn52, qn53, qn57, qn58, qn59, qn60, qn61, qn62, qn63, qn91, qn93, qn97, qn99, qn100, qn103, qn104, qn112, qn113, qn115, qn116, qn118, qn119, qn121, qn124, qn173, qn177, qn240, qn255, qn295, qn352, qn353, qn533, qn999, qn1000, qn1023, qn6561, qn10000, qn20787, qn1000000, qn252645135, qn858993459, qn1000000000, qn1431655765, qj0, qj1, qj2, qj4, qj7, qj8, qj9, qj10, qj30, qj100, qj1000, qj1000000, qj1000000000, qj1442695040888963407, qj6364136223846793005, q_s1, q_s2, q_s3, q_s4, q_s5, iI_add, iI_sub, iI_mul, iI_neg, q_lt, q_le, q_eq, jI_add, jI_sub, jI_mul, jI_neg, jI_of, jI_to, j_le0, j_ge0, j_lt0, j_gt0, j_eq0, q_dvl, qz0, qz1, qz2, qz3, if_pos, if_neg, reduceIte, e1]
    · unfold f_X12_log
      simp (disch := omega) only [qn0, qn1, qn2, qn3, qn4, qn5, qn6, qn7, qn8, qn9, qn10, qn11, qn12, qn13, qn14, qn15, qn16, qn17, qn18, qn24, qn30, qn31, qn32, qn33, qn36, qn38, qn40, qn41, qn42, qn43, qn45, qn47, qn48, qn49, qn50, qn51, qn52, qn53, qn57, qn58, qn59, qn60, qn61, qn62, qn63, qn91, qn93, qn97, qn99, qn100, qn103, qn104, qn112, qn113, qn115, qn116, qn118, qn119, qn121, qn124, qn173, qn177, qn240, qn255, qn295, qn352, qn353, qn533, qn999, qn1000, qn1023, qn6561, qn10000, qn20787, qn1000000, qn252645135, qn858993459, qn1000000000, qn1431655765, qj0, qj1, qj2, qj4, qj7, qj8, qj9, qj10, qj30, qj100, qj1000, qj1000000, qj1000000000, qj1442695040888963407, qj6364136223846793005, q_s1, q_s2, q_s3, q_s4, q_s5, iI_add, iI_sub, iI_mul, iI_neg, q_lt, q_le, q_eq, jI_add, jI_sub, jI_mul, jI_neg, jI_of, jI_to, j_le0, j_ge0, j_lt0, j_gt0, j_eq0, q_dvl, qz0, qz1, qz2, qz3, if_pos, if_neg, reduceIte, e2, m_isOut]
  · refine ⟨iI (-1000000), gs_up M 147 0 (iI 0), ?_, ?_, hI0.ag (ma_g0 iv_ag.rf _)⟩
    · unfold f_X11_log
      simp (disch := omega) only [qn0, qn1, qn2, qn3, qn4, qn5, qn6, qn7, qn8, qn9, qn10, qn11, qn12, qn13, qn14, qn15, qn16, qn17, qn18, qn24, qn30, qn31, qn32, qn33, qn36, qn38, qn40, qn41, qn42, qn43, qn45, qn47, qn48, qn49, qn50, qn51, qn52, qn53, qn57, qn58, qn59, qn60, qn61, qn62, qn63, qn91, qn93, qn97, qn99, qn100, qn103, qn104, qn112, qn113, qn115, qn116, qn118, qn119, qn121, qn124, qn173, qn177, qn240, qn255, qn295, qn352, qn353, qn533, qn999, qn1000, qn1023, qn6561, qn10000, qn20787, qn1000000, qn252645135, qn858993459, qn1000000000, qn1431655765, qj0, qj1, qj2, qj4, qj7, qj8, qj9, qj10, qj30, qj100, qj1000, qj1000000, qj1000000000, qj1442695040888963407, qj6364136223846793005, q_s1, q_s2, q_s3, q_s4, q_s5, iI_add, iI_sub, iI_mul, iI_neg, q_lt, q_le, q_eq, jI_add, jI_sub, jI_mul, jI_neg, jI_of, jI_to, j_le0, j_ge0, j_lt0, j_gt0, j_eq0, q_dvl, qz0, qz1, qz2, qz3, if_pos, if_neg, reduceIte, e1]
    · unfold f_X12_log
      simp (disch := omega) only [qn0, qn1, qn2, qn3, qn4, qn5, qn6, qn7, qn8, qn9, qn10, qn11, qn12, qn13, qn14, qn15, qn16, qn17, qn18, qn24, qn30, qn31, qn32, qn33, qn36, qn38, qn40, qn41, qn42, qn43, qn45, qn47, qn48, qn49, qn50, qn51, qn52, qn53, qn57, qn58, qn59, qn60, qn61, qn62, qn63, qn91, qn93, qn97, qn99, qn100, qn103, qn104, qn112, qn113, qn115, qn116, qn118, qn119, qn121, qn124, qn173, qn177, qn240, qn255, qn295, qn352, qn353, qn533, qn999, qn1000, qn1023, qn6561, qn10000, qn20787, qn1000000, qn252645135, qn858993459, qn1000000000, qn1431655765, qj0, qj1, qj2, qj4, qj7, qj8, qj9, qj10, qj30, qj100, qj1000, qj1000000, qj1000000000, qj1442695040888963407, qj6364136223846793005, q_s1, q_s2, q_s3, q_s4, q_s5, iI_add, iI_sub, iI_mul, iI_neg, q_lt, q_le, q_eq, jI_add, jI_sub, jI_mul, jI_neg, jI_of, jI_to, j_le0, j_ge0, j_lt0, j_gt0, j_eq0, q_dvl, qz0, qz1, qz2, qz3, if_pos, if_neg, reduceIte, e2, m_isOut]
  obtain ⟨i, hi⟩ : ∃ i : Nat, s 352 - 1 - z = i := ⟨(s 352 - 1 - z).toNat, by omega⟩
  have hb := W.1.2.2.2.2.2 i (by omega)
  unfold ma_lr at hb
  have e3 : f_X6_logAt M (iI z) = some (iI (ma_lg s i)) := by
    unfold f_X6_logAt
    simp (disch := omega) only [qn0, qn1, qn2, qn3, qn4, qn5, qn6, qn7, qn8, qn9, qn10, qn11, qn12, qn13, qn14, qn15, qn16, qn17, qn18, qn24, qn30, qn31, qn32, qn33, qn36, qn38, qn40, qn41, qn42, qn43, qn45, qn47, qn48, qn49, qn50, qn51, qn52, qn53, qn57, qn58, qn59, qn60, qn61, qn62, qn63, qn91, qn93, qn97, qn99, qn100, qn103, qn104, qn112, qn113, qn115, qn116, qn118, qn119, qn121, qn124, qn173, qn177, qn240, qn255, qn295, qn352, qn353, qn533, qn999, qn1000, qn1023, qn6561, qn10000, qn20787, qn1000000, qn252645135, qn858993459, qn1000000000, qn1431655765, qj0, qj1, qj2, qj4, qj7, qj8, qj9, qj10, qj30, qj100, qj1000, qj1000000, qj1000000000, qj1442695040888963407, qj6364136223846793005, q_s1, q_s2, q_s3, q_s4, q_s5, iI_add, iI_sub, iI_mul, iI_neg, q_lt, q_le, q_eq, jI_add, jI_sub, jI_mul, jI_neg, jI_of, jI_to, j_le0, j_ge0, j_lt0, j_gt0, j_eq0, q_dvl, qz0, qz1, qz2, qz3, if_pos, if_neg, reduceIte, e1]
    rw [q_rdn (113 + i) (by omega) (by omega) (by decide), C.st.2.2.2.2 i (by omega)]
    simp only [q_s1]
  have e4 : ma_lg s i = s (353 + 3 * i) + 8 * s (354 + 3 * i) + 16 * (s (355 + 3 * i) + 1000) := rfl
  rcases (by omega : y < 0 ∨ 2 < y ∨ y = 0 ∨ y = 1 ∨ y = 2) with d | d | d | d | d
  · refine ⟨iI (-1000000), gs_up M 147 0 (iI 0), ?_, ?_, hI0.ag (ma_g0 iv_ag.rf _)⟩
    · unfold f_X11_log
      simp (disch := omega) only [qn0, qn1, qn2, qn3, qn4, qn5, qn6, qn7, qn8, qn9, qn10, qn11, qn12, qn13, qn14, qn15, qn16, qn17, qn18, qn24, qn30, qn31, qn32, qn33, qn36, qn38, qn40, qn41, qn42, qn43, qn45, qn47, qn48, qn49, qn50, qn51, qn52, qn53, qn57, qn58, qn59, qn60, qn61, qn62, qn63, qn91, qn93, qn97, qn99, qn100, qn103, qn104, qn112, qn113, qn115, qn116, qn118, qn119, qn121, qn124, qn173, qn177, qn240, qn255, qn295, qn352, qn353, qn533, qn999, qn1000, qn1023, qn6561, qn10000, qn20787, qn1000000, qn252645135, qn858993459, qn1000000000, qn1431655765, qj0, qj1, qj2, qj4, qj7, qj8, qj9, qj10, qj30, qj100, qj1000, qj1000000, qj1000000000, qj1442695040888963407, qj6364136223846793005, q_s1, q_s2, q_s3, q_s4, q_s5, iI_add, iI_sub, iI_mul, iI_neg, q_lt, q_le, q_eq, jI_add, jI_sub, jI_mul, jI_neg, jI_of, jI_to, j_le0, j_ge0, j_lt0, j_gt0, j_eq0, q_dvl, qz0, qz1, qz2, qz3, if_pos, if_neg, reduceIte, e1]
    · unfold f_X12_log
      simp (disch := omega) only [qn0, qn1, qn2, qn3, qn4, qn5, qn6, qn7, qn8, qn9, qn10, qn11, qn12, qn13, qn14, qn15, qn16, qn17, qn18, qn24, qn30, qn31, qn32, qn33, qn36, qn38, qn40, qn41, qn42, qn43, qn45, qn47, qn48, qn49, qn50, qn51, qn52, qn53, qn57, qn58, qn59, qn60, qn61, qn62, qn63, qn91, qn93, qn97, qn99, qn100, qn103, qn104, qn112, qn113, qn115, qn116, qn118, qn119, qn121, qn124, qn173, qn177, qn240, qn255, qn295, qn352, qn353, qn533, qn999, qn1000, qn1023, qn6561, qn10000, qn20787, qn1000000, qn252645135, qn858993459, qn1000000000, qn1431655765, qj0, qj1, qj2, qj4, qj7, qj8, qj9, qj10, qj30, qj100, qj1000, qj1000000, qj1000000000, qj1442695040888963407, qj6364136223846793005, q_s1, q_s2, q_s3, q_s4, q_s5, iI_add, iI_sub, iI_mul, iI_neg, q_lt, q_le, q_eq, jI_add, jI_sub, jI_mul, jI_neg, jI_of, jI_to, j_le0, j_ge0, j_lt0, j_gt0, j_eq0, q_dvl, qz0, qz1, qz2, qz3, if_pos, if_neg, reduceIte, e2, m_isOut, m_isIn]
  · refine ⟨iI (-1000000), gs_up M 147 0 (iI 0), ?_, ?_, hI0.ag (ma_g0 iv_ag.rf _)⟩
    · unfold f_X11_log
      simp (disch := omega) only [qn0, qn1, qn2, qn3, qn4, qn5, qn6, qn7, qn8, qn9, qn10, qn11, qn12, qn13, qn14, qn15, qn16, qn17, qn18, qn24, qn30, qn31, qn32, qn33, qn36, qn38, qn40, qn41, qn42, qn43, qn45, qn47, qn48, qn49, qn50, qn51, qn52, qn53, qn57, qn58, qn59, qn60, qn61, qn62, qn63, qn91, qn93, qn97, qn99, qn100, qn103, qn104, qn112, qn113, qn115, qn116, qn118, qn119, qn121, qn124, qn173, qn177, qn240, qn255, qn295, qn352, qn353, qn533, qn999, qn1000, qn1023, qn6561, qn10000, qn20787, qn1000000, qn252645135, qn858993459, qn1000000000, qn1431655765, qj0, qj1, qj2, qj4, qj7, qj8, qj9, qj10, qj30, qj100, qj1000, qj1000000, qj1000000000, qj1442695040888963407, qj6364136223846793005, q_s1, q_s2, q_s3, q_s4, q_s5, iI_add, iI_sub, iI_mul, iI_neg, q_lt, q_le, q_eq, jI_add, jI_sub, jI_mul, jI_neg, jI_of, jI_to, j_le0, j_ge0, j_lt0, j_gt0, j_eq0, q_dvl, qz0, qz1, qz2, qz3, if_pos, if_neg, reduceIte, e1]
    · unfold f_X12_log
      simp (disch := omega) only [qn0, qn1, qn2, qn3, qn4, qn5, qn6, qn7, qn8, qn9, qn10, qn11, qn12, qn13, qn14, qn15, qn16, qn17, qn18, qn24, qn30, qn31, qn32, qn33, qn36, qn38, qn40, qn41, qn42, qn43, qn45, qn47, qn48, qn49, qn50, qn51, qn52, qn53, qn57, qn58, qn59, qn60, qn61, qn62, qn63, qn91, qn93, qn97, qn99, qn100, qn103, qn104, qn112, qn113, qn115, qn116, qn118, qn119, qn121, qn124, qn173, qn177, qn240, qn255, qn295, qn352, qn353, qn533, qn999, qn1000, qn1023, qn6561, qn10000, qn20787, qn1000000, qn252645135, qn858993459, qn1000000000, qn1431655765, qj0, qj1, qj2, qj4, qj7, qj8, qj9, qj10, qj30, qj100, qj1000, qj1000000, qj1000000000, qj1442695040888963407, qj6364136223846793005, q_s1, q_s2, q_s3, q_s4, q_s5, iI_add, iI_sub, iI_mul, iI_neg, q_lt, q_le, q_eq, jI_add, jI_sub, jI_mul, jI_neg, jI_of, jI_to, j_le0, j_ge0, j_lt0, j_gt0, j_eq0, q_dvl, qz0, qz1, qz2, qz3, if_pos, if_neg, reduceIte, e2, m_isOut, m_isIn]
  · subst d
    have e5 : f_X6_whoOf (iI (ma_lg s i)) = some (iI (s (353 + 3 * i))) := by
      unfold f_X6_whoOf
      rw [qn7, q_an7 (by omega)]
      congr 2; omega
    have e6 : gs_rd (gs_up M 147 0 (iI 0)) 158 533 (iI (353 + 3 * (s 352 - 1 - z) + 0)) = some (iI (s (353 + 3 * i))) := by
      rw [hi, show (353 + 3 * (i : Int) + 0) = ((353 + 3 * i : Nat) : Int) by omega]
      exact m_cell D1.st (by omega)
    refine ⟨iI (s (353 + 3 * i)), gs_up M 147 0 (iI 0), ?_, ?_, hI0.ag (ma_g0 iv_ag.rf _)⟩
    · unfold f_X11_log
      simp (disch := omega) only [qn0, qn1, qn2, qn3, qn4, qn5, qn6, qn7, qn8, qn9, qn10, qn11, qn12, qn13, qn14, qn15, qn16, qn17, qn18, qn24, qn30, qn31, qn32, qn33, qn36, qn38, qn40, qn41, qn42, qn43, qn45, qn47, qn48, qn49, qn50, qn51, qn52, qn53, qn57, qn58, qn59, qn60, qn61, qn62, qn63, qn91, qn93, qn97, qn99, qn100, qn103, qn104, qn112, qn113, qn115, qn116, qn118, qn119, qn121, qn124, qn173, qn177, qn240, qn255, qn295, qn352, qn353, qn533, qn999, qn1000, qn1023, qn6561, qn10000, qn20787, qn1000000, qn252645135, qn858993459, qn1000000000, qn1431655765, qj0, qj1, qj2, qj4, qj7, qj8, qj9, qj10, qj30, qj100, qj1000, qj1000000, qj1000000000, qj1442695040888963407, qj6364136223846793005, q_s1, q_s2, q_s3, q_s4, q_s5, iI_add, iI_sub, iI_mul, iI_neg, q_lt, q_le, q_eq, jI_add, jI_sub, jI_mul, jI_neg, jI_of, jI_to, j_le0, j_ge0, j_lt0, j_gt0, j_eq0, q_dvl, qz0, qz1, qz2, qz3, if_pos, if_neg, reduceIte, e1, e3, e5]
    · unfold f_X12_log
      simp (disch := omega) only [qn0, qn1, qn2, qn3, qn4, qn5, qn6, qn7, qn8, qn9, qn10, qn11, qn12, qn13, qn14, qn15, qn16, qn17, qn18, qn24, qn30, qn31, qn32, qn33, qn36, qn38, qn40, qn41, qn42, qn43, qn45, qn47, qn48, qn49, qn50, qn51, qn52, qn53, qn57, qn58, qn59, qn60, qn61, qn62, qn63, qn91, qn93, qn97, qn99, qn100, qn103, qn104, qn112, qn113, qn115, qn116, qn118, qn119, qn121, qn124, qn173, qn177, qn240, qn255, qn295, qn352, qn353, qn533, qn999, qn1000, qn1023, qn6561, qn10000, qn20787, qn1000000, qn252645135, qn858993459, qn1000000000, qn1431655765, qj0, qj1, qj2, qj4, qj7, qj8, qj9, qj10, qj30, qj100, qj1000, qj1000000, qj1000000000, qj1442695040888963407, qj6364136223846793005, q_s1, q_s2, q_s3, q_s4, q_s5, iI_add, iI_sub, iI_mul, iI_neg, q_lt, q_le, q_eq, jI_add, jI_sub, jI_mul, jI_neg, jI_of, jI_to, j_le0, j_ge0, j_lt0, j_gt0, j_eq0, q_dvl, qz0, qz1, qz2, qz3, if_pos, if_neg, reduceIte, e2, m_isIn, e6]
  · subst d
    have e5 : f_X6_gaoledOf (iI (ma_lg s i)) = some (iI (s (354 + 3 * i))) := by
      unfold f_X6_gaoledOf
      rw [qn3, qn31, qn1, q_sr3 (by omega), q_an1 (by omega)]
      congr 2; omega
    have e6 : gs_rd (gs_up M 147 0 (iI 0)) 158 533 (iI (353 + 3 * (s 352 - 1 - z) + 1)) = some (iI (s (354 + 3 * i))) := by
      rw [hi, show (353 + 3 * (i : Int) + 1) = ((354 + 3 * i : Nat) : Int) by omega]
      exact m_cell D1.st (by omega)
    refine ⟨iI (s (354 + 3 * i)), gs_up M 147 0 (iI 0), ?_, ?_, hI0.ag (ma_g0 iv_ag.rf _)⟩
    · unfold f_X11_log
      simp (disch := omega) only [qn0, qn1, qn2, qn3, qn4, qn5, qn6, qn7, qn8, qn9, qn10, qn11, qn12, qn13, qn14, qn15, qn16, qn17, qn18, qn24, qn30, qn31, qn32, qn33, qn36, qn38, qn40, qn41, qn42, qn43, qn45, qn47, qn48, qn49, qn50, qn51, qn52, qn53, qn57, qn58, qn59, qn60, qn61, qn62, qn63, qn91, qn93, qn97, qn99, qn100, qn103, qn104, qn112, qn113, qn115, qn116, qn118, qn119, qn121, qn124, qn173, qn177, qn240, qn255, qn295, qn352, qn353, qn533, qn999, qn1000, qn1023, qn6561, qn10000, qn20787, qn1000000, qn252645135, qn858993459, qn1000000000, qn1431655765, qj0, qj1, qj2, qj4, qj7, qj8, qj9, qj10, qj30, qj100, qj1000, qj1000000, qj1000000000, qj1442695040888963407, qj6364136223846793005, q_s1, q_s2, q_s3, q_s4, q_s5, iI_add, iI_sub, iI_mul, iI_neg, q_lt, q_le, q_eq, jI_add, jI_sub, jI_mul, jI_neg, jI_of, jI_to, j_le0, j_ge0, j_lt0, j_gt0, j_eq0, q_dvl, qz0, qz1, qz2, qz3, if_pos, if_neg, reduceIte, e1, e3, e5]
    · unfold f_X12_log
      simp (disch := omega) only [qn0, qn1, qn2, qn3, qn4, qn5, qn6, qn7, qn8, qn9, qn10, qn11, qn12, qn13, qn14, qn15, qn16, qn17, qn18, qn24, qn30, qn31, qn32, qn33, qn36, qn38, qn40, qn41, qn42, qn43, qn45, qn47, qn48, qn49, qn50, qn51, qn52, qn53, qn57, qn58, qn59, qn60, qn61, qn62, qn63, qn91, qn93, qn97, qn99, qn100, qn103, qn104, qn112, qn113, qn115, qn116, qn118, qn119, qn121, qn124, qn173, qn177, qn240, qn255, qn295, qn352, qn353, qn533, qn999, qn1000, qn1023, qn6561, qn10000, qn20787, qn1000000, qn252645135, qn858993459, qn1000000000, qn1431655765, qj0, qj1, qj2, qj4, qj7, qj8, qj9, qj10, qj30, qj100, qj1000, qj1000000, qj1000000000, qj1442695040888963407, qj6364136223846793005, q_s1, q_s2, q_s3, q_s4, q_s5, iI_add, iI_sub, iI_mul, iI_neg, q_lt, q_le, q_eq, jI_add, jI_sub, jI_mul, jI_neg, jI_of, jI_to, j_le0, j_ge0, j_lt0, j_gt0, j_eq0, q_dvl, qz0, qz1, qz2, qz3, if_pos, if_neg, reduceIte, e2, m_isIn, e6]
  · subst d
    have e5 : f_X6_pointsOf (iI (ma_lg s i)) = some (iI (s (355 + 3 * i))) := by
      unfold f_X6_pointsOf
      rw [qn4, qn31, qn1000, q_sr4 (by omega), iI_sub]
      congr 2; omega
    have e6 : gs_rd (gs_up M 147 0 (iI 0)) 158 533 (iI (353 + 3 * (s 352 - 1 - z) + 2)) = some (iI (s (355 + 3 * i))) := by
      rw [hi, show (353 + 3 * (i : Int) + 2) = ((355 + 3 * i : Nat) : Int) by omega]
      exact m_cell D1.st (by omega)
    refine ⟨iI (s (355 + 3 * i)), gs_up M 147 0 (iI 0), ?_, ?_, hI0.ag (ma_g0 iv_ag.rf _)⟩
    · unfold f_X11_log
      simp (disch := omega) only [qn0, qn1, qn2, qn3, qn4, qn5, qn6, qn7, qn8, qn9, qn10, qn11, qn12, qn13, qn14, qn15, qn16, qn17, qn18, qn24, qn30, qn31, qn32, qn33, qn36, qn38, qn40, qn41, qn42, qn43, qn45, qn47, qn48, qn49, qn50, qn51, qn52, qn53, qn57, qn58, qn59, qn60, qn61, qn62, qn63, qn91, qn93, qn97, qn99, qn100, qn103, qn104, qn112, qn113, qn115, qn116, qn118, qn119, qn121, qn124, qn173, qn177, qn240, qn255, qn295, qn352, qn353, qn533, qn999, qn1000, qn1023, qn6561, qn10000, qn20787, qn1000000, qn252645135, qn858993459, qn1000000000, qn1431655765, qj0, qj1, qj2, qj4, qj7, qj8, qj9, qj10, qj30, qj100, qj1000, qj1000000, qj1000000000, qj1442695040888963407, qj6364136223846793005, q_s1, q_s2, q_s3, q_s4, q_s5, iI_add, iI_sub, iI_mul, iI_neg, q_lt, q_le, q_eq, jI_add, jI_sub, jI_mul, jI_neg, jI_of, jI_to, j_le0, j_ge0, j_lt0, j_gt0, j_eq0, q_dvl, qz0, qz1, qz2, qz3, if_pos, if_neg, reduceIte, e1, e3, e5]
    · unfold f_X12_log
      simp (disch := omega) only [qn0, qn1, qn2, qn3, qn4, qn5, qn6, qn7, qn8, qn9, qn10, qn11, qn12, qn13, qn14, qn15, qn16, qn17, qn18, qn24, qn30, qn31, qn32, qn33, qn36, qn38, qn40, qn41, qn42, qn43, qn45, qn47, qn48, qn49, qn50, qn51, qn52, qn53, qn57, qn58, qn59, qn60, qn61, qn62, qn63, qn91, qn93, qn97, qn99, qn100, qn103, qn104, qn112, qn113, qn115, qn116, qn118, qn119, qn121, qn124, qn173, qn177, qn240, qn255, qn295, qn352, qn353, qn533, qn999, qn1000, qn1023, qn6561, qn10000, qn20787, qn1000000, qn252645135, qn858993459, qn1000000000, qn1431655765, qj0, qj1, qj2, qj4, qj7, qj8, qj9, qj10, qj30, qj100, qj1000, qj1000000, qj1000000000, qj1442695040888963407, qj6364136223846793005, q_s1, q_s2, q_s3, q_s4, q_s5, iI_add, iI_sub, iI_mul, iI_neg, q_lt, q_le, q_eq, jI_add, jI_sub, jI_mul, jI_neg, jI_of, jI_to, j_le0, j_ge0, j_lt0, j_gt0, j_eq0, q_dvl, qz0, qz1, qz2, qz3, if_pos, if_neg, reduceIte, e2, m_isIn, e6]
theorem s_book : gl_S_book ma_Inv := by
  intro M L hI x1 x2
  have hI0 := hI
  obtain ⟨s, T, V, W, C, D⟩ := hI
  have w := W.2.1
  obtain ⟨f1, f2, f3, f4, f5, f6, f7, f8, f9, f10, f11, f12, f13, f14, -⟩ := W.2.1
  have D1 := ma_D0 D w (iI 0)
  obtain ⟨z, z1, z2, rfl⟩ := q_any x1
  obtain ⟨y, y1, y2, rfl⟩ := q_any x2
  have w4 := W.1.2.2.1
  have e1 := c_books rfl C.st
  have e2 := m_bk D1.st
  rcases (by omega : z < 0 ∨ (0 ≤ z ∧ s 51 ≤ z) ∨ (0 ≤ z ∧ z < s 51)) with c | c | c
  · refine ⟨iI (-1), gs_up M 147 0 (iI 0), ?_, ?_, hI0.ag (ma_g0 iv_ag.rf _)⟩
    · unfold f_X11_book
      simp (disch := omega) only [qn0, qn1, qn2, qn3, qn4, qn5, qn6, qn7, qn8, qn9, qn10, qn11, qn12, qn13, qn14, qn15, qn16, qn17, qn18, qn24, qn30, qn31, qn32, qn33, qn36, qn38, qn40, qn41, qn42, qn43, qn45, qn47, qn48, qn49, qn50, qn51, qn52, qn53, qn57, qn58, qn59, qn60, qn61, qn62, qn63, qn91, qn93, qn97, qn99, qn100, qn103, qn104, qn112, qn113, qn115, qn116, qn118, qn119, qn121, qn124, qn173, qn177, qn240, qn255, qn295, qn352, qn353, qn533, qn999, qn1000, qn1023, qn6561, qn10000, qn20787, qn1000000, qn252645135, qn858993459, qn1000000000, qn1431655765, qj0, qj1, qj2, qj4, qj7, qj8, qj9, qj10, qj30, qj100, qj1000, qj1000000, qj1000000000, qj1442695040888963407, qj6364136223846793005, q_s1, q_s2, q_s3, q_s4, q_s5, iI_add, iI_sub, iI_mul, iI_neg, q_lt, q_le, q_eq, jI_add, jI_sub, jI_mul, jI_neg, jI_of, jI_to, j_le0, j_ge0, j_lt0, j_gt0, j_eq0, q_dvl, qz0, qz1, qz2, qz3, if_pos, if_neg, reduceIte, e1]
    · unfold f_X12_book
      simp (disch := omega) only [qn0, qn1, qn2, qn3, qn4, qn5, qn6, qn7, qn8, qn9, qn10, qn11, qn12, qn13, qn14, qn15, qn16, qn17, qn18, qn24, qn30, qn31, qn32, qn33, qn36, qn38, qn40, qn41, qn42, qn43, qn45, qn47, qn48, qn49, qn50, qn51, qn52, qn53, qn57, qn58, qn59, qn60, qn61, qn62, qn63, qn91, qn93, qn97, qn99, qn100, qn103, qn104, qn112, qn113, qn115, qn116, qn118, qn119, qn121, qn124, qn173, qn177, qn240, qn255, qn295, qn352, qn353, qn533, qn999, qn1000, qn1023, qn6561, qn10000, qn20787, qn1000000, qn252645135, qn858993459, qn1000000000, qn1431655765, qj0, qj1, qj2, qj4, qj7, qj8, qj9, qj10, qj30, qj100, qj1000, qj1000000, qj1000000000, qj1442695040888963407, qj6364136223846793005, q_s1, q_s2, q_s3, q_s4, q_s5, iI_add, iI_sub, iI_mul, iI_neg, q_lt, q_le, q_eq, jI_add, jI_sub, jI_mul, jI_neg, jI_of, jI_to, j_le0, j_ge0, j_lt0, j_gt0, j_eq0, q_dvl, qz0, qz1, qz2, qz3, if_pos, if_neg, reduceIte, e2, m_isOut]
  · refine ⟨iI (-1), gs_up M 147 0 (iI 0), ?_, ?_, hI0.ag (ma_g0 iv_ag.rf _)⟩
    · unfold f_X11_book
      simp (disch := omega) only [qn0, qn1, qn2, qn3, qn4, qn5, qn6, qn7, qn8, qn9, qn10, qn11, qn12, qn13, qn14, qn15, qn16, qn17, qn18, qn24, qn30, qn31, qn32, qn33, qn36, qn38, qn40, qn41, qn42, qn43, qn45, qn47, qn48, qn49, qn50, qn51, qn52, qn53, qn57, qn58, qn59, qn60, qn61, qn62, qn63, qn91, qn93, qn97, qn99, qn100, qn103, qn104, qn112, qn113, qn115, qn116, qn118, qn119, qn121, qn124, qn173, qn177, qn240, qn255, qn295, qn352, qn353, qn533, qn999, qn1000, qn1023, qn6561, qn10000, qn20787, qn1000000, qn252645135, qn858993459, qn1000000000, qn1431655765, qj0, qj1, qj2, qj4, qj7, qj8, qj9, qj10, qj30, qj100, qj1000, qj1000000, qj1000000000, qj1442695040888963407, qj6364136223846793005, q_s1, q_s2, q_s3, q_s4, q_s5, iI_add, iI_sub, iI_mul, iI_neg, q_lt, q_le, q_eq, jI_add, jI_sub, jI_mul, jI_neg, jI_of, jI_to, j_le0, j_ge0, j_lt0, j_gt0, j_eq0, q_dvl, qz0, qz1, qz2, qz3, if_pos, if_neg, reduceIte, e1]
    · unfold f_X12_book
      simp (disch := omega) only [qn0, qn1, qn2, qn3, qn4, qn5, qn6, qn7, qn8, qn9, qn10, qn11, qn12, qn13, qn14, qn15, qn16, qn17, qn18, qn24, qn30, qn31, qn32, qn33, qn36, qn38, qn40, qn41, qn42, qn43, qn45, qn47, qn48, qn49, qn50, qn51, qn52, qn53, qn57, qn58, qn59, qn60, qn61, qn62, qn63, qn91, qn93, qn97, qn99, qn100, qn103, qn104, qn112, qn113, qn115, qn116, qn118, qn119, qn121, qn124, qn173, qn177, qn240, qn255, qn295, qn352, qn353, qn533, qn999, qn1000, qn1023, qn6561, qn10000, qn20787, qn1000000, qn252645135, qn858993459, qn1000000000, qn1431655765, qj0, qj1, qj2, qj4, qj7, qj8, qj9, qj10, qj30, qj100, qj1000, qj1000000, qj1000000000, qj1442695040888963407, qj6364136223846793005, q_s1, q_s2, q_s3, q_s4, q_s5, iI_add, iI_sub, iI_mul, iI_neg, q_lt, q_le, q_eq, jI_add, jI_sub, jI_mul, jI_neg, jI_of, jI_to, j_le0, j_ge0, j_lt0, j_gt0, j_eq0, q_dvl, qz0, qz1, qz2, qz3, if_pos, if_neg, reduceIte, e2, m_isOut]
  obtain ⟨i, hi⟩ : ∃ i : Nat, s 51 - 1 - z = i := ⟨(s 51 - 1 - z).toNat, by omega⟩
  have e3 := c_bookAt C.st W.1 (i := i) (by omega)
  obtain ⟨u0, u1, u2, u3, u4⟩ := c_unp W.1 (i := i) (by omega)
  have i60 : i < 60 := by omega
  rcases (by omega : y < 0 ∨ 4 < y ∨ y = 0 ∨ y = 1 ∨ y = 2 ∨ y = 3 ∨ y = 4) with d | d | d | d | d | d | d
  · refine ⟨iI (-1), gs_up M 147 0 (iI 0), ?_, ?_, hI0.ag (ma_g0 iv_ag.rf _)⟩
    · unfold f_X11_book
      simp (disch := omega) only [qn0, qn1, qn2, qn3, qn4, qn5, qn6, qn7, qn8, qn9, qn10, qn11, qn12, qn13, qn14, qn15, qn16, qn17, qn18, qn24, qn30, qn31, qn32, qn33, qn36, qn38, qn40, qn41, qn42, qn43, qn45, qn47, qn48, qn49, qn50, qn51, qn52, qn53, qn57, qn58, qn59, qn60, qn61, qn62, qn63, qn91, qn93, qn97, qn99, qn100, qn103, qn104, qn112, qn113, qn115, qn116, qn118, qn119, qn121, qn124, qn173, qn177, qn240, qn255, qn295, qn352, qn353, qn533, qn999, qn1000, qn1023, qn6561, qn10000, qn20787, qn1000000, qn252645135, qn858993459, qn1000000000, qn1431655765, qj0, qj1, qj2, qj4, qj7, qj8, qj9, qj10, qj30, qj100, qj1000, qj1000000, qj1000000000, qj1442695040888963407, qj6364136223846793005, q_s1, q_s2, q_s3, q_s4, q_s5, iI_add, iI_sub, iI_mul, iI_neg, q_lt, q_le, q_eq, jI_add, jI_sub, jI_mul, jI_neg, jI_of, jI_to, j_le0, j_ge0, j_lt0, j_gt0, j_eq0, q_dvl, qz0, qz1, qz2, qz3, if_pos, if_neg, reduceIte, e1, hi, e3]
    · unfold f_X12_book
      simp (disch := omega) only [qn0, qn1, qn2, qn3, qn4, qn5, qn6, qn7, qn8, qn9, qn10, qn11, qn12, qn13, qn14, qn15, qn16, qn17, qn18, qn24, qn30, qn31, qn32, qn33, qn36, qn38, qn40, qn41, qn42, qn43, qn45, qn47, qn48, qn49, qn50, qn51, qn52, qn53, qn57, qn58, qn59, qn60, qn61, qn62, qn63, qn91, qn93, qn97, qn99, qn100, qn103, qn104, qn112, qn113, qn115, qn116, qn118, qn119, qn121, qn124, qn173, qn177, qn240, qn255, qn295, qn352, qn353, qn533, qn999, qn1000, qn1023, qn6561, qn10000, qn20787, qn1000000, qn252645135, qn858993459, qn1000000000, qn1431655765, qj0, qj1, qj2, qj4, qj7, qj8, qj9, qj10, qj30, qj100, qj1000, qj1000000, qj1000000000, qj1442695040888963407, qj6364136223846793005, q_s1, q_s2, q_s3, q_s4, q_s5, iI_add, iI_sub, iI_mul, iI_neg, q_lt, q_le, q_eq, jI_add, jI_sub, jI_mul, jI_neg, jI_of, jI_to, j_le0, j_ge0, j_lt0, j_gt0, j_eq0, q_dvl, qz0, qz1, qz2, qz3, if_pos, if_neg, reduceIte, e2, m_isIn, m_isOut]
  · refine ⟨iI (-1), gs_up M 147 0 (iI 0), ?_, ?_, hI0.ag (ma_g0 iv_ag.rf _)⟩
    · unfold f_X11_book
      simp (disch := omega) only [qn0, qn1, qn2, qn3, qn4, qn5, qn6, qn7, qn8, qn9, qn10, qn11, qn12, qn13, qn14, qn15, qn16, qn17, qn18, qn24, qn30, qn31, qn32, qn33, qn36, qn38, qn40, qn41, qn42, qn43, qn45, qn47, qn48, qn49, qn50, qn51, qn52, qn53, qn57, qn58, qn59, qn60, qn61, qn62, qn63, qn91, qn93, qn97, qn99, qn100, qn103, qn104, qn112, qn113, qn115, qn116, qn118, qn119, qn121, qn124, qn173, qn177, qn240, qn255, qn295, qn352, qn353, qn533, qn999, qn1000, qn1023, qn6561, qn10000, qn20787, qn1000000, qn252645135, qn858993459, qn1000000000, qn1431655765, qj0, qj1, qj2, qj4, qj7, qj8, qj9, qj10, qj30, qj100, qj1000, qj1000000, qj1000000000, qj1442695040888963407, qj6364136223846793005, q_s1, q_s2, q_s3, q_s4, q_s5, iI_add, iI_sub, iI_mul, iI_neg, q_lt, q_le, q_eq, jI_add, jI_sub, jI_mul, jI_neg, jI_of, jI_to, j_le0, j_ge0, j_lt0, j_gt0, j_eq0, q_dvl, qz0, qz1, qz2, qz3, if_pos, if_neg, reduceIte, e1, hi, e3]
    · unfold f_X12_book
      simp (disch := omega) only [qn0, qn1, qn2, qn3, qn4, qn5, qn6, qn7, qn8, qn9, qn10, qn11, qn12, qn13, qn14, qn15, qn16, qn17, qn18, qn24, qn30, qn31, qn32, qn33, qn36, qn38, qn40, qn41, qn42, qn43, qn45, qn47, qn48, qn49, qn50, qn51, qn52, qn53, qn57, qn58, qn59, qn60, qn61, qn62, qn63, qn91, qn93, qn97, qn99, qn100, qn103, qn104, qn112, qn113, qn115, qn116, qn118, qn119, qn121, qn124, qn173, qn177, qn240, qn255, qn295, qn352, qn353, qn533, qn999, qn1000, qn1023, qn6561, qn10000, qn20787, qn1000000, qn252645135, qn858993459, qn1000000000, qn1431655765, qj0, qj1, qj2, qj4, qj7, qj8, qj9, qj10, qj30, qj100, qj1000, qj1000000, qj1000000000, qj1442695040888963407, qj6364136223846793005, q_s1, q_s2, q_s3, q_s4, q_s5, iI_add, iI_sub, iI_mul, iI_neg, q_lt, q_le, q_eq, jI_add, jI_sub, jI_mul, jI_neg, jI_of, jI_to, j_le0, j_ge0, j_lt0, j_gt0, j_eq0, q_dvl, qz0, qz1, qz2, qz3, if_pos, if_neg, reduceIte, e2, m_isIn, m_isOut]
  · subst d
    refine ⟨iI (s (52 + 5 * i)), gs_up M 147 0 (iI 0), ?_, ?_, hI0.ag (ma_g0 iv_ag.rf _)⟩
    · unfold f_X11_book
      simp (disch := omega) only [qn0, qn1, qn2, qn3, qn4, qn5, qn6, qn7, qn8, qn9, qn10, qn11, qn12, qn13, qn14, qn15, qn16, qn17, qn18, qn24, qn30, qn31, qn32, qn33, qn36, qn38, qn40, qn41, qn42, qn43, qn45, qn47, qn48, qn49, qn50, qn51, qn52, qn53, qn57, qn58, qn59, qn60, qn61, qn62, qn63, qn91, qn93, qn97, qn99, qn100, qn103, qn104, qn112, qn113, qn115, qn116, qn118, qn119, qn121, qn124, qn173, qn177, qn240, qn255, qn295, qn352, qn353, qn533, qn999, qn1000, qn1023, qn6561, qn10000, qn20787, qn1000000, qn252645135, qn858993459, qn1000000000, qn1431655765, qj0, qj1, qj2, qj4, qj7, qj8, qj9, qj10, qj30, qj100, qj1000, qj1000000, qj1000000000, qj1442695040888963407, qj6364136223846793005, q_s1, q_s2, q_s3, q_s4, q_s5, iI_add, iI_sub, iI_mul, iI_neg, q_lt, q_le, q_eq, jI_add, jI_sub, jI_mul, jI_neg, jI_of, jI_to, j_le0, j_ge0, j_lt0, j_gt0, j_eq0, q_dvl, qz0, qz1, qz2, qz3, if_pos, if_neg, reduceIte, e1, hi, e3, u0]
    · unfold f_X12_book
      simp (disch := omega) only [qn0, qn1, qn2, qn3, qn4, qn5, qn6, qn7, qn8, qn9, qn10, qn11, qn12, qn13, qn14, qn15, qn16, qn17, qn18, qn24, qn30, qn31, qn32, qn33, qn36, qn38, qn40, qn41, qn42, qn43, qn45, qn47, qn48, qn49, qn50, qn51, qn52, qn53, qn57, qn58, qn59, qn60, qn61, qn62, qn63, qn91, qn93, qn97, qn99, qn100, qn103, qn104, qn112, qn113, qn115, qn116, qn118, qn119, qn121, qn124, qn173, qn177, qn240, qn255, qn295, qn352, qn353, qn533, qn999, qn1000, qn1023, qn6561, qn10000, qn20787, qn1000000, qn252645135, qn858993459, qn1000000000, qn1431655765, qj0, qj1, qj2, qj4, qj7, qj8, qj9, qj10, qj30, qj100, qj1000, qj1000000, qj1000000000, qj1442695040888963407, qj6364136223846793005, q_s1, q_s2, q_s3, q_s4, q_s5, iI_add, iI_sub, iI_mul, iI_neg, q_lt, q_le, q_eq, jI_add, jI_sub, jI_mul, jI_neg, jI_of, jI_to, j_le0, j_ge0, j_lt0, j_gt0, j_eq0, q_dvl, qz0, qz1, qz2, qz3, if_pos, if_neg, reduceIte, e2, m_isIn, hi, m_page0 D1.st i60]
  · subst d
    refine ⟨iI (s (53 + 5 * i)), gs_up M 147 0 (iI 0), ?_, ?_, hI0.ag (ma_g0 iv_ag.rf _)⟩
    · unfold f_X11_book
      simp (disch := omega) only [qn0, qn1, qn2, qn3, qn4, qn5, qn6, qn7, qn8, qn9, qn10, qn11, qn12, qn13, qn14, qn15, qn16, qn17, qn18, qn24, qn30, qn31, qn32, qn33, qn36, qn38, qn40, qn41, qn42, qn43, qn45, qn47, qn48, qn49, qn50, qn51, qn52, qn53, qn57, qn58, qn59, qn60, qn61, qn62, qn63, qn91, qn93, qn97, qn99, qn100, qn103, qn104, qn112, qn113, qn115, qn116, qn118, qn119, qn121, qn124, qn173, qn177, qn240, qn255, qn295, qn352, qn353, qn533, qn999, qn1000, qn1023, qn6561, qn10000, qn20787, qn1000000, qn252645135, qn858993459, qn1000000000, qn1431655765, qj0, qj1, qj2, qj4, qj7, qj8, qj9, qj10, qj30, qj100, qj1000, qj1000000, qj1000000000, qj1442695040888963407, qj6364136223846793005, q_s1, q_s2, q_s3, q_s4, q_s5, iI_add, iI_sub, iI_mul, iI_neg, q_lt, q_le, q_eq, jI_add, jI_sub, jI_mul, jI_neg, jI_of, jI_to, j_le0, j_ge0, j_lt0, j_gt0, j_eq0, q_dvl, qz0, qz1, qz2, qz3, if_pos, if_neg, reduceIte, e1, hi, e3, u1]
    · unfold f_X12_book
      simp (disch := omega) only [qn0, qn1, qn2, qn3, qn4, qn5, qn6, qn7, qn8, qn9, qn10, qn11, qn12, qn13, qn14, qn15, qn16, qn17, qn18, qn24, qn30, qn31, qn32, qn33, qn36, qn38, qn40, qn41, qn42, qn43, qn45, qn47, qn48, qn49, qn50, qn51, qn52, qn53, qn57, qn58, qn59, qn60, qn61, qn62, qn63, qn91, qn93, qn97, qn99, qn100, qn103, qn104, qn112, qn113, qn115, qn116, qn118, qn119, qn121, qn124, qn173, qn177, qn240, qn255, qn295, qn352, qn353, qn533, qn999, qn1000, qn1023, qn6561, qn10000, qn20787, qn1000000, qn252645135, qn858993459, qn1000000000, qn1431655765, qj0, qj1, qj2, qj4, qj7, qj8, qj9, qj10, qj30, qj100, qj1000, qj1000000, qj1000000000, qj1442695040888963407, qj6364136223846793005, q_s1, q_s2, q_s3, q_s4, q_s5, iI_add, iI_sub, iI_mul, iI_neg, q_lt, q_le, q_eq, jI_add, jI_sub, jI_mul, jI_neg, jI_of, jI_to, j_le0, j_ge0, j_lt0, j_gt0, j_eq0, q_dvl, qz0, qz1, qz2, qz3, if_pos, if_neg, reduceIte, e2, m_isIn, hi, m_page1 D1.st i60]
  · subst d
    refine ⟨iI (s (54 + 5 * i)), gs_up M 147 0 (iI 0), ?_, ?_, hI0.ag (ma_g0 iv_ag.rf _)⟩
    · unfold f_X11_book
      simp (disch := omega) only [qn0, qn1, qn2, qn3, qn4, qn5, qn6, qn7, qn8, qn9, qn10, qn11, qn12, qn13, qn14, qn15, qn16, qn17, qn18, qn24, qn30, qn31, qn32, qn33, qn36, qn38, qn40, qn41, qn42, qn43, qn45, qn47, qn48, qn49, qn50, qn51, qn52, qn53, qn57, qn58, qn59, qn60, qn61, qn62, qn63, qn91, qn93, qn97, qn99, qn100, qn103, qn104, qn112, qn113, qn115, qn116, qn118, qn119, qn121, qn124, qn173, qn177, qn240, qn255, qn295, qn352, qn353, qn533, qn999, qn1000, qn1023, qn6561, qn10000, qn20787, qn1000000, qn252645135, qn858993459, qn1000000000, qn1431655765, qj0, qj1, qj2, qj4, qj7, qj8, qj9, qj10, qj30, qj100, qj1000, qj1000000, qj1000000000, qj1442695040888963407, qj6364136223846793005, q_s1, q_s2, q_s3, q_s4, q_s5, iI_add, iI_sub, iI_mul, iI_neg, q_lt, q_le, q_eq, jI_add, jI_sub, jI_mul, jI_neg, jI_of, jI_to, j_le0, j_ge0, j_lt0, j_gt0, j_eq0, q_dvl, qz0, qz1, qz2, qz3, if_pos, if_neg, reduceIte, e1, hi, e3, u2]
    · unfold f_X12_book
      simp (disch := omega) only [qn0, qn1, qn2, qn3, qn4, qn5, qn6, qn7, qn8, qn9, qn10, qn11, qn12, qn13, qn14, qn15, qn16, qn17, qn18, qn24, qn30, qn31, qn32, qn33, qn36, qn38, qn40, qn41, qn42, qn43, qn45, qn47, qn48, qn49, qn50, qn51, qn52, qn53, qn57, qn58, qn59, qn60, qn61, qn62, qn63, qn91, qn93, qn97, qn99, qn100, qn103, qn104, qn112, qn113, qn115, qn116, qn118, qn119, qn121, qn124, qn173, qn177, qn240, qn255, qn295, qn352, qn353, qn533, qn999, qn1000, qn1023, qn6561, qn10000, qn20787, qn1000000, qn252645135, qn858993459, qn1000000000, qn1431655765, qj0, qj1, qj2, qj4, qj7, qj8, qj9, qj10, qj30, qj100, qj1000, qj1000000, qj1000000000, qj1442695040888963407, qj6364136223846793005, q_s1, q_s2, q_s3, q_s4, q_s5, iI_add, iI_sub, iI_mul, iI_neg, q_lt, q_le, q_eq, jI_add, jI_sub, jI_mul, jI_neg, jI_of, jI_to, j_le0, j_ge0, j_lt0, j_gt0, j_eq0, q_dvl, qz0, qz1, qz2, qz3, if_pos, if_neg, reduceIte, e2, m_isIn, hi, m_page2 D1.st i60]
  · subst d
    refine ⟨iI (s (55 + 5 * i)), gs_up M 147 0 (iI 0), ?_, ?_, hI0.ag (ma_g0 iv_ag.rf _)⟩
    · unfold f_X11_book
      simp (disch := omega) only [qn0, qn1, qn2, qn3, qn4, qn5, qn6, qn7, qn8, qn9, qn10, qn11, qn12, qn13, qn14, qn15, qn16, qn17, qn18, qn24, qn30, qn31, qn32, qn33, qn36, qn38, qn40, qn41, qn42, qn43, qn45, qn47, qn48, qn49, qn50, qn51, qn52, qn53, qn57, qn58, qn59, qn60, qn61, qn62, qn63, qn91, qn93, qn97, qn99, qn100, qn103, qn104, qn112, qn113, qn115, qn116, qn118, qn119, qn121, qn124, qn173, qn177, qn240, qn255, qn295, qn352, qn353, qn533, qn999, qn1000, qn1023, qn6561, qn10000, qn20787, qn1000000, qn252645135, qn858993459, qn1000000000, qn1431655765, qj0, qj1, qj2, qj4, qj7, qj8, qj9, qj10, qj30, qj100, qj1000, qj1000000, qj1000000000, qj1442695040888963407, qj6364136223846793005, q_s1, q_s2, q_s3, q_s4, q_s5, iI_add, iI_sub, iI_mul, iI_neg, q_lt, q_le, q_eq, jI_add, jI_sub, jI_mul, jI_neg, jI_of, jI_to, j_le0, j_ge0, j_lt0, j_gt0, j_eq0, q_dvl, qz0, qz1, qz2, qz3, if_pos, if_neg, reduceIte, e1, hi, e3, u3]
    · unfold f_X12_book
      simp (disch := omega) only [qn0, qn1, qn2, qn3, qn4, qn5, qn6, qn7, qn8, qn9, qn10, qn11, qn12, qn13, qn14, qn15, qn16, qn17, qn18, qn24, qn30, qn31, qn32, qn33, qn36, qn38, qn40, qn41, qn42, qn43, qn45, qn47, qn48, qn49, qn50, qn51, qn52, qn53, qn57, qn58, qn59, qn60, qn61, qn62, qn63, qn91, qn93, qn97, qn99, qn100, qn103, qn104, qn112, qn113, qn115, qn116, qn118, qn119, qn121, qn124, qn173, qn177, qn240, qn255, qn295, qn352, qn353, qn533, qn999, qn1000, qn1023, qn6561, qn10000, qn20787, qn1000000, qn252645135, qn858993459, qn1000000000, qn1431655765, qj0, qj1, qj2, qj4, qj7, qj8, qj9, qj10, qj30, qj100, qj1000, qj1000000, qj1000000000, qj1442695040888963407, qj6364136223846793005, q_s1, q_s2, q_s3, q_s4, q_s5, iI_add, iI_sub, iI_mul, iI_neg, q_lt, q_le, q_eq, jI_add, jI_sub, jI_mul, jI_neg, jI_of, jI_to, j_le0, j_ge0, j_lt0, j_gt0, j_eq0, q_dvl, qz0, qz1, qz2, qz3, if_pos, if_neg, reduceIte, e2, m_isIn, hi, m_page3 D1.st i60]
  · subst d
    refine ⟨iI (s (56 + 5 * i)), gs_up M 147 0 (iI 0), ?_, ?_, hI0.ag (ma_g0 iv_ag.rf _)⟩
    · unfold f_X11_book
      simp (disch := omega) only [qn0, qn1, qn2, qn3, qn4, qn5, qn6, qn7, qn8, qn9, qn10, qn11, qn12, qn13, qn14, qn15, qn16, qn17, qn18, qn24, qn30, qn31, qn32, qn33, qn36, qn38, qn40, qn41, qn42, qn43, qn45, qn47, qn48, qn49, qn50, qn51, qn52, qn53, qn57, qn58, qn59, qn60, qn61, qn62, qn63, qn91, qn93, qn97, qn99, qn100, qn103, qn104, qn112, qn113, qn115, qn116, qn118, qn119, qn121, qn124, qn173, qn177, qn240, qn255, qn295, qn352, qn353, qn533, qn999, qn1000, qn1023, qn6561, qn10000, qn20787, qn1000000, qn252645135, qn858993459, qn1000000000, qn1431655765, qj0, qj1, qj2, qj4, qj7, qj8, qj9, qj10, qj30, qj100, qj1000, qj1000000, qj1000000000, qj1442695040888963407, qj6364136223846793005, q_s1, q_s2, q_s3, q_s4, q_s5, iI_add, iI_sub, iI_mul, iI_neg, q_lt, q_le, q_eq, jI_add, jI_sub, jI_mul, jI_neg, jI_of, jI_to, j_le0, j_ge0, j_lt0, j_gt0, j_eq0, q_dvl, qz0, qz1, qz2, qz3, if_pos, if_neg, reduceIte, e1, hi, e3, u4]
    · unfold f_X12_book
      simp (disch := omega) only [qn0, qn1, qn2, qn3, qn4, qn5, qn6, qn7, qn8, qn9, qn10, qn11, qn12, qn13, qn14, qn15, qn16, qn17, qn18, qn24, qn30, qn31, qn32, qn33, qn36, qn38, qn40, qn41, qn42, qn43, qn45, qn47, qn48, qn49, qn50, qn51, qn52, qn53, qn57, qn58, qn59, qn60, qn61, qn62, qn63, qn91, qn93, qn97, qn99, qn100, qn103, qn104, qn112, qn113, qn115, qn116, qn118, qn119, qn121, qn124, qn173, qn177, qn240, qn255, qn295, qn352, qn353, qn533, qn999, qn1000, qn1023, qn6561, qn10000, qn20787, qn1000000, qn252645135, qn858993459, qn1000000000, qn1431655765, qj0, qj1, qj2, qj4, qj7, qj8, qj9, qj10, qj30, qj100, qj1000, qj1000000, qj1000000000, qj1442695040888963407, qj6364136223846793005, q_s1, q_s2, q_s3, q_s4, q_s5, iI_add, iI_sub, iI_mul, iI_neg, q_lt, q_le, q_eq, jI_add, jI_sub, jI_mul, jI_neg, jI_of, jI_to, j_le0, j_ge0, j_lt0, j_gt0, j_eq0, q_dvl, qz0, qz1, qz2, qz3, if_pos, if_neg, reduceIte, e2, m_isIn, hi, m_page4 D1.st i60]
theorem s_count : gl_S_count ma_Inv := by
  intro M L hI x1
  have hI0 := hI
  obtain ⟨s, T, V, W, C, D⟩ := hI
  have w := W.2.1
  obtain ⟨f1, f2, f3, f4, f5, f6, f7, f8, f9, f10, f11, f12, f13, f14, -⟩ := W.2.1
  have D1 := ma_D0 D w (iI 0)
  obtain ⟨z, z1, z2, rfl⟩ := q_any x1
  rcases (by omega : z = 0 ∨ z = 1 ∨ z = 2 ∨ z = 3 ∨ z = 4 ∨ z = 5 ∨ z = 6 ∨ z = 7 ∨ z = 8 ∨ z = 9 ∨ z = 10 ∨ z = 11 ∨ z = 12 ∨ z = 13 ∨ z < 0 ∨ 13 < z) with d | d | d | d | d | d | d | d | d | d | d | d | d | d | d | d
  · refine ⟨iI (T 3 0), gs_up M 147 0 (iI 0), ?_, ?_, hI0.ag (ma_g0 iv_ag.rf _)⟩
    · unfold f_X11_count
      simp (disch := omega) only [qn0, qn1, qn2, qn3, qn4, qn5, qn6, qn7, qn8, qn9, qn10, qn11, qn12, qn13, qn14, qn15, qn16, qn17, qn18, qn24, qn30, qn31, qn32, qn33, qn36, qn38, qn40, qn41, qn42, qn43, qn45, qn47, qn48, qn49, qn50, qn51, qn52, qn53, qn57, qn58, qn59, qn60, qn61, qn62, qn63, qn91, qn93, qn97, qn99, qn100, qn103, qn104, qn112, qn113, qn115, qn116, qn118, qn119, qn121, qn124, qn173, qn177, qn240, qn255, qn295, qn352, qn353, qn533, qn999, qn1000, qn1023, qn6561, qn10000, qn20787, qn1000000, qn252645135, qn858993459, qn1000000000, qn1431655765, qj0, qj1, qj2, qj4, qj7, qj8, qj9, qj10, qj30, qj100, qj1000, qj1000000, qj1000000000, qj1442695040888963407, qj6364136223846793005, q_s1, q_s2, q_s3, q_s4, q_s5, iI_add, iI_sub, iI_mul, iI_neg, q_lt, q_le, q_eq, jI_add, jI_sub, jI_mul, jI_neg, jI_of, jI_to, j_le0, j_ge0, j_lt0, j_gt0, j_eq0, q_dvl, qz0, qz1, qz2, qz3, if_pos, if_neg, reduceIte, c_crowd C]
    · unfold f_X12_count
      simp (disch := omega) only [qn0, qn1, qn2, qn3, qn4, qn5, qn6, qn7, qn8, qn9, qn10, qn11, qn12, qn13, qn14, qn15, qn16, qn17, qn18, qn24, qn30, qn31, qn32, qn33, qn36, qn38, qn40, qn41, qn42, qn43, qn45, qn47, qn48, qn49, qn50, qn51, qn52, qn53, qn57, qn58, qn59, qn60, qn61, qn62, qn63, qn91, qn93, qn97, qn99, qn100, qn103, qn104, qn112, qn113, qn115, qn116, qn118, qn119, qn121, qn124, qn173, qn177, qn240, qn255, qn295, qn352, qn353, qn533, qn999, qn1000, qn1023, qn6561, qn10000, qn20787, qn1000000, qn252645135, qn858993459, qn1000000000, qn1431655765, qj0, qj1, qj2, qj4, qj7, qj8, qj9, qj10, qj30, qj100, qj1000, qj1000000, qj1000000000, qj1442695040888963407, qj6364136223846793005, q_s1, q_s2, q_s3, q_s4, q_s5, iI_add, iI_sub, iI_mul, iI_neg, q_lt, q_le, q_eq, jI_add, jI_sub, jI_mul, jI_neg, jI_of, jI_to, j_le0, j_ge0, j_lt0, j_gt0, j_eq0, q_dvl, qz0, qz1, qz2, qz3, if_pos, if_neg, reduceIte, D1.fo]
  · refine ⟨iI (T 3 4), gs_up M 147 0 (iI 0), ?_, ?_, hI0.ag (ma_g0 iv_ag.rf _)⟩
    · unfold f_X11_count
      simp (disch := omega) only [qn0, qn1, qn2, qn3, qn4, qn5, qn6, qn7, qn8, qn9, qn10, qn11, qn12, qn13, qn14, qn15, qn16, qn17, qn18, qn24, qn30, qn31, qn32, qn33, qn36, qn38, qn40, qn41, qn42, qn43, qn45, qn47, qn48, qn49, qn50, qn51, qn52, qn53, qn57, qn58, qn59, qn60, qn61, qn62, qn63, qn91, qn93, qn97, qn99, qn100, qn103, qn104, qn112, qn113, qn115, qn116, qn118, qn119, qn121, qn124, qn173, qn177, qn240, qn255, qn295, qn352, qn353, qn533, qn999, qn1000, qn1023, qn6561, qn10000, qn20787, qn1000000, qn252645135, qn858993459, qn1000000000, qn1431655765, qj0, qj1, qj2, qj4, qj7, qj8, qj9, qj10, qj30, qj100, qj1000, qj1000000, qj1000000000, qj1442695040888963407, qj6364136223846793005, q_s1, q_s2, q_s3, q_s4, q_s5, iI_add, iI_sub, iI_mul, iI_neg, q_lt, q_le, q_eq, jI_add, jI_sub, jI_mul, jI_neg, jI_of, jI_to, j_le0, j_ge0, j_lt0, j_gt0, j_eq0, q_dvl, qz0, qz1, qz2, qz3, if_pos, if_neg, reduceIte, f_X4_laws, C.lm]
    · unfold f_X12_count
      simp (disch := omega) only [qn0, qn1, qn2, qn3, qn4, qn5, qn6, qn7, qn8, qn9, qn10, qn11, qn12, qn13, qn14, qn15, qn16, qn17, qn18, qn24, qn30, qn31, qn32, qn33, qn36, qn38, qn40, qn41, qn42, qn43, qn45, qn47, qn48, qn49, qn50, qn51, qn52, qn53, qn57, qn58, qn59, qn60, qn61, qn62, qn63, qn91, qn93, qn97, qn99, qn100, qn103, qn104, qn112, qn113, qn115, qn116, qn118, qn119, qn121, qn124, qn173, qn177, qn240, qn255, qn295, qn352, qn353, qn533, qn999, qn1000, qn1023, qn6561, qn10000, qn20787, qn1000000, qn252645135, qn858993459, qn1000000000, qn1431655765, qj0, qj1, qj2, qj4, qj7, qj8, qj9, qj10, qj30, qj100, qj1000, qj1000000, qj1000000000, qj1442695040888963407, qj6364136223846793005, q_s1, q_s2, q_s3, q_s4, q_s5, iI_add, iI_sub, iI_mul, iI_neg, q_lt, q_le, q_eq, jI_add, jI_sub, jI_mul, jI_neg, jI_of, jI_to, j_le0, j_ge0, j_lt0, j_gt0, j_eq0, q_dvl, qz0, qz1, qz2, qz3, if_pos, if_neg, reduceIte, D1.lm]
  · refine ⟨iI (T 3 5), gs_up M 147 0 (iI 0), ?_, ?_, hI0.ag (ma_g0 iv_ag.rf _)⟩
    · unfold f_X11_count
      simp (disch := omega) only [qn0, qn1, qn2, qn3, qn4, qn5, qn6, qn7, qn8, qn9, qn10, qn11, qn12, qn13, qn14, qn15, qn16, qn17, qn18, qn24, qn30, qn31, qn32, qn33, qn36, qn38, qn40, qn41, qn42, qn43, qn45, qn47, qn48, qn49, qn50, qn51, qn52, qn53, qn57, qn58, qn59, qn60, qn61, qn62, qn63, qn91, qn93, qn97, qn99, qn100, qn103, qn104, qn112, qn113, qn115, qn116, qn118, qn119, qn121, qn124, qn173, qn177, qn240, qn255, qn295, qn352, qn353, qn533, qn999, qn1000, qn1023, qn6561, qn10000, qn20787, qn1000000, qn252645135, qn858993459, qn1000000000, qn1431655765, qj0, qj1, qj2, qj4, qj7, qj8, qj9, qj10, qj30, qj100, qj1000, qj1000000, qj1000000000, qj1442695040888963407, qj6364136223846793005, q_s1, q_s2, q_s3, q_s4, q_s5, iI_add, iI_sub, iI_mul, iI_neg, q_lt, q_le, q_eq, jI_add, jI_sub, jI_mul, jI_neg, jI_of, jI_to, j_le0, j_ge0, j_lt0, j_gt0, j_eq0, q_dvl, qz0, qz1, qz2, qz3, if_pos, if_neg, reduceIte, f_X10_many, C.wm]
    · unfold f_X12_count
      simp (disch := omega) only [qn0, qn1, qn2, qn3, qn4, qn5, qn6, qn7, qn8, qn9, qn10, qn11, qn12, qn13, qn14, qn15, qn16, qn17, qn18, qn24, qn30, qn31, qn32, qn33, qn36, qn38, qn40, qn41, qn42, qn43, qn45, qn47, qn48, qn49, qn50, qn51, qn52, qn53, qn57, qn58, qn59, qn60, qn61, qn62, qn63, qn91, qn93, qn97, qn99, qn100, qn103, qn104, qn112, qn113, qn115, qn116, qn118, qn119, qn121, qn124, qn173, qn177, qn240, qn255, qn295, qn352, qn353, qn533, qn999, qn1000, qn1023, qn6561, qn10000, qn20787, qn1000000, qn252645135, qn858993459, qn1000000000, qn1431655765, qj0, qj1, qj2, qj4, qj7, qj8, qj9, qj10, qj30, qj100, qj1000, qj1000000, qj1000000000, qj1442695040888963407, qj6364136223846793005, q_s1, q_s2, q_s3, q_s4, q_s5, iI_add, iI_sub, iI_mul, iI_neg, q_lt, q_le, q_eq, jI_add, jI_sub, jI_mul, jI_neg, jI_of, jI_to, j_le0, j_ge0, j_lt0, j_gt0, j_eq0, q_dvl, qz0, qz1, qz2, qz3, if_pos, if_neg, reduceIte, D1.wm]
  · refine ⟨iI (T 3 7), gs_up M 147 0 (iI 0), ?_, ?_, hI0.ag (ma_g0 iv_ag.rf _)⟩
    · unfold f_X11_count
      simp (disch := omega) only [qn0, qn1, qn2, qn3, qn4, qn5, qn6, qn7, qn8, qn9, qn10, qn11, qn12, qn13, qn14, qn15, qn16, qn17, qn18, qn24, qn30, qn31, qn32, qn33, qn36, qn38, qn40, qn41, qn42, qn43, qn45, qn47, qn48, qn49, qn50, qn51, qn52, qn53, qn57, qn58, qn59, qn60, qn61, qn62, qn63, qn91, qn93, qn97, qn99, qn100, qn103, qn104, qn112, qn113, qn115, qn116, qn118, qn119, qn121, qn124, qn173, qn177, qn240, qn255, qn295, qn352, qn353, qn533, qn999, qn1000, qn1023, qn6561, qn10000, qn20787, qn1000000, qn252645135, qn858993459, qn1000000000, qn1431655765, qj0, qj1, qj2, qj4, qj7, qj8, qj9, qj10, qj30, qj100, qj1000, qj1000000, qj1000000000, qj1442695040888963407, qj6364136223846793005, q_s1, q_s2, q_s3, q_s4, q_s5, iI_add, iI_sub, iI_mul, iI_neg, q_lt, q_le, q_eq, jI_add, jI_sub, jI_mul, jI_neg, jI_of, jI_to, j_le0, j_ge0, j_lt0, j_gt0, j_eq0, q_dvl, qz0, qz1, qz2, qz3, if_pos, if_neg, reduceIte, f_X7_size, C.ta]
    · unfold f_X12_count
      simp (disch := omega) only [qn0, qn1, qn2, qn3, qn4, qn5, qn6, qn7, qn8, qn9, qn10, qn11, qn12, qn13, qn14, qn15, qn16, qn17, qn18, qn24, qn30, qn31, qn32, qn33, qn36, qn38, qn40, qn41, qn42, qn43, qn45, qn47, qn48, qn49, qn50, qn51, qn52, qn53, qn57, qn58, qn59, qn60, qn61, qn62, qn63, qn91, qn93, qn97, qn99, qn100, qn103, qn104, qn112, qn113, qn115, qn116, qn118, qn119, qn121, qn124, qn173, qn177, qn240, qn255, qn295, qn352, qn353, qn533, qn999, qn1000, qn1023, qn6561, qn10000, qn20787, qn1000000, qn252645135, qn858993459, qn1000000000, qn1431655765, qj0, qj1, qj2, qj4, qj7, qj8, qj9, qj10, qj30, qj100, qj1000, qj1000000, qj1000000000, qj1442695040888963407, qj6364136223846793005, q_s1, q_s2, q_s3, q_s4, q_s5, iI_add, iI_sub, iI_mul, iI_neg, q_lt, q_le, q_eq, jI_add, jI_sub, jI_mul, jI_neg, jI_of, jI_to, j_le0, j_ge0, j_lt0, j_gt0, j_eq0, q_dvl, qz0, qz1, qz2, qz3, if_pos, if_neg, reduceIte, D1.ta]
  · refine ⟨iI (T 3 2), gs_up M 147 0 (iI 0), ?_, ?_, hI0.ag (ma_g0 iv_ag.rf _)⟩
    · unfold f_X11_count
      simp (disch := omega) only [qn0, qn1, qn2, qn3, qn4, qn5, qn6, qn7, qn8, qn9, qn10, qn11, qn12, qn13, qn14, qn15, qn16, qn17, qn18, qn24, qn30, qn31, qn32, qn33, qn36, qn38, qn40, qn41, qn42, qn43, qn45, qn47, qn48, qn49, qn50, qn51, qn52, qn53, qn57, qn58, qn59, qn60, qn61, qn62, qn63, qn91, qn93, qn97, qn99, qn100, qn103, qn104, qn112, qn113, qn115, qn116, qn118, qn119, qn121, qn124, qn173, qn177, qn240, qn255, qn295, qn352, qn353, qn533, qn999, qn1000, qn1023, qn6561, qn10000, qn20787, qn1000000, qn252645135, qn858993459, qn1000000000, qn1431655765, qj0, qj1, qj2, qj4, qj7, qj8, qj9, qj10, qj30, qj100, qj1000, qj1000000, qj1000000000, qj1442695040888963407, qj6364136223846793005, q_s1, q_s2, q_s3, q_s4, q_s5, iI_add, iI_sub, iI_mul, iI_neg, q_lt, q_le, q_eq, jI_add, jI_sub, jI_mul, jI_neg, jI_of, jI_to, j_le0, j_ge0, j_lt0, j_gt0, j_eq0, q_dvl, qz0, qz1, qz2, qz3, if_pos, if_neg, reduceIte, f_X4_holding, C.la]
    · unfold f_X12_count
      simp (disch := omega) only [qn0, qn1, qn2, qn3, qn4, qn5, qn6, qn7, qn8, qn9, qn10, qn11, qn12, qn13, qn14, qn15, qn16, qn17, qn18, qn24, qn30, qn31, qn32, qn33, qn36, qn38, qn40, qn41, qn42, qn43, qn45, qn47, qn48, qn49, qn50, qn51, qn52, qn53, qn57, qn58, qn59, qn60, qn61, qn62, qn63, qn91, qn93, qn97, qn99, qn100, qn103, qn104, qn112, qn113, qn115, qn116, qn118, qn119, qn121, qn124, qn173, qn177, qn240, qn255, qn295, qn352, qn353, qn533, qn999, qn1000, qn1023, qn6561, qn10000, qn20787, qn1000000, qn252645135, qn858993459, qn1000000000, qn1431655765, qj0, qj1, qj2, qj4, qj7, qj8, qj9, qj10, qj30, qj100, qj1000, qj1000000, qj1000000000, qj1442695040888963407, qj6364136223846793005, q_s1, q_s2, q_s3, q_s4, q_s5, iI_add, iI_sub, iI_mul, iI_neg, q_lt, q_le, q_eq, jI_add, jI_sub, jI_mul, jI_neg, jI_of, jI_to, j_le0, j_ge0, j_lt0, j_gt0, j_eq0, q_dvl, qz0, qz1, qz2, qz3, if_pos, if_neg, reduceIte, D1.la]
  · refine ⟨iI (T 3 3), gs_up M 147 0 (iI 0), ?_, ?_, hI0.ag (ma_g0 iv_ag.rf _)⟩
    · unfold f_X11_count
      simp (disch := omega) only [qn0, qn1, qn2, qn3, qn4, qn5, qn6, qn7, qn8, qn9, qn10, qn11, qn12, qn13, qn14, qn15, qn16, qn17, qn18, qn24, qn30, qn31, qn32, qn33, qn36, qn38, qn40, qn41, qn42, qn43, qn45, qn47, qn48, qn49, qn50, qn51, qn52, qn53, qn57, qn58, qn59, qn60, qn61, qn62, qn63, qn91, qn93, qn97, qn99, qn100, qn103, qn104, qn112, qn113, qn115, qn116, qn118, qn119, qn121, qn124, qn173, qn177, qn240, qn255, qn295, qn352, qn353, qn533, qn999, qn1000, qn1023, qn6561, qn10000, qn20787, qn1000000, qn252645135, qn858993459, qn1000000000, qn1431655765, qj0, qj1, qj2, qj4, qj7, qj8, qj9, qj10, qj30, qj100, qj1000, qj1000000, qj1000000000, qj1442695040888963407, qj6364136223846793005, q_s1, q_s2, q_s3, q_s4, q_s5, iI_add, iI_sub, iI_mul, iI_neg, q_lt, q_le, q_eq, jI_add, jI_sub, jI_mul, jI_neg, jI_of, jI_to, j_le0, j_ge0, j_lt0, j_gt0, j_eq0, q_dvl, qz0, qz1, qz2, qz3, if_pos, if_neg, reduceIte, f_X10_holding, C.wa]
    · unfold f_X12_count
      simp (disch := omega) only [qn0, qn1, qn2, qn3, qn4, qn5, qn6, qn7, qn8, qn9, qn10, qn11, qn12, qn13, qn14, qn15, qn16, qn17, qn18, qn24, qn30, qn31, qn32, qn33, qn36, qn38, qn40, qn41, qn42, qn43, qn45, qn47, qn48, qn49, qn50, qn51, qn52, qn53, qn57, qn58, qn59, qn60, qn61, qn62, qn63, qn91, qn93, qn97, qn99, qn100, qn103, qn104, qn112, qn113, qn115, qn116, qn118, qn119, qn121, qn124, qn173, qn177, qn240, qn255, qn295, qn352, qn353, qn533, qn999, qn1000, qn1023, qn6561, qn10000, qn20787, qn1000000, qn252645135, qn858993459, qn1000000000, qn1431655765, qj0, qj1, qj2, qj4, qj7, qj8, qj9, qj10, qj30, qj100, qj1000, qj1000000, qj1000000000, qj1442695040888963407, qj6364136223846793005, q_s1, q_s2, q_s3, q_s4, q_s5, iI_add, iI_sub, iI_mul, iI_neg, q_lt, q_le, q_eq, jI_add, jI_sub, jI_mul, jI_neg, jI_of, jI_to, j_le0, j_ge0, j_lt0, j_gt0, j_eq0, q_dvl, qz0, qz1, qz2, qz3, if_pos, if_neg, reduceIte, D1.wa]
  · refine ⟨iI (s 48), gs_up M 147 0 (iI 0), ?_, ?_, hI0.ag (ma_g0 iv_ag.rf _)⟩
    · unfold f_X11_count
      simp (disch := omega) only [qn0, qn1, qn2, qn3, qn4, qn5, qn6, qn7, qn8, qn9, qn10, qn11, qn12, qn13, qn14, qn15, qn16, qn17, qn18, qn24, qn30, qn31, qn32, qn33, qn36, qn38, qn40, qn41, qn42, qn43, qn45, qn47, qn48, qn49, qn50, qn51, qn52, qn53, qn57, qn58, qn59, qn60, qn61, qn62, qn63, qn91, qn93, qn97, qn99, qn100, qn103, qn104, qn112, qn113, qn115, qn116, qn118, qn119, qn121, qn124, qn173, qn177, qn240, qn255, qn295, qn352, qn353, qn533, qn999, qn1000, qn1023, qn6561, qn10000, qn20787, qn1000000, qn252645135, qn858993459, qn1000000000, qn1431655765, qj0, qj1, qj2, qj4, qj7, qj8, qj9, qj10, qj30, qj100, qj1000, qj1000000, qj1000000000, qj1442695040888963407, qj6364136223846793005, q_s1, q_s2, q_s3, q_s4, q_s5, iI_add, iI_sub, iI_mul, iI_neg, q_lt, q_le, q_eq, jI_add, jI_sub, jI_mul, jI_neg, jI_of, jI_to, j_le0, j_ge0, j_lt0, j_gt0, j_eq0, q_dvl, qz0, qz1, qz2, qz3, if_pos, if_neg, reduceIte, c_now0 C.st]
    · unfold f_X12_count
      simp (disch := omega) only [qn0, qn1, qn2, qn3, qn4, qn5, qn6, qn7, qn8, qn9, qn10, qn11, qn12, qn13, qn14, qn15, qn16, qn17, qn18, qn24, qn30, qn31, qn32, qn33, qn36, qn38, qn40, qn41, qn42, qn43, qn45, qn47, qn48, qn49, qn50, qn51, qn52, qn53, qn57, qn58, qn59, qn60, qn61, qn62, qn63, qn91, qn93, qn97, qn99, qn100, qn103, qn104, qn112, qn113, qn115, qn116, qn118, qn119, qn121, qn124, qn173, qn177, qn240, qn255, qn295, qn352, qn353, qn533, qn999, qn1000, qn1023, qn6561, qn10000, qn20787, qn1000000, qn252645135, qn858993459, qn1000000000, qn1431655765, qj0, qj1, qj2, qj4, qj7, qj8, qj9, qj10, qj30, qj100, qj1000, qj1000000, qj1000000000, qj1442695040888963407, qj6364136223846793005, q_s1, q_s2, q_s3, q_s4, q_s5, iI_add, iI_sub, iI_mul, iI_neg, q_lt, q_le, q_eq, jI_add, jI_sub, jI_mul, jI_neg, jI_of, jI_to, j_le0, j_ge0, j_lt0, j_gt0, j_eq0, q_dvl, qz0, qz1, qz2, qz3, if_pos, if_neg, reduceIte, m_c48 D1.st]
  · refine ⟨iI (s 49), gs_up M 147 0 (iI 0), ?_, ?_, hI0.ag (ma_g0 iv_ag.rf _)⟩
    · unfold f_X11_count
      simp (disch := omega) only [qn0, qn1, qn2, qn3, qn4, qn5, qn6, qn7, qn8, qn9, qn10, qn11, qn12, qn13, qn14, qn15, qn16, qn17, qn18, qn24, qn30, qn31, qn32, qn33, qn36, qn38, qn40, qn41, qn42, qn43, qn45, qn47, qn48, qn49, qn50, qn51, qn52, qn53, qn57, qn58, qn59, qn60, qn61, qn62, qn63, qn91, qn93, qn97, qn99, qn100, qn103, qn104, qn112, qn113, qn115, qn116, qn118, qn119, qn121, qn124, qn173, qn177, qn240, qn255, qn295, qn352, qn353, qn533, qn999, qn1000, qn1023, qn6561, qn10000, qn20787, qn1000000, qn252645135, qn858993459, qn1000000000, qn1431655765, qj0, qj1, qj2, qj4, qj7, qj8, qj9, qj10, qj30, qj100, qj1000, qj1000000, qj1000000000, qj1442695040888963407, qj6364136223846793005, q_s1, q_s2, q_s3, q_s4, q_s5, iI_add, iI_sub, iI_mul, iI_neg, q_lt, q_le, q_eq, jI_add, jI_sub, jI_mul, jI_neg, jI_of, jI_to, j_le0, j_ge0, j_lt0, j_gt0, j_eq0, q_dvl, qz0, qz1, qz2, qz3, if_pos, if_neg, reduceIte, c_rights C.st]
    · unfold f_X12_count
      simp (disch := omega) only [qn0, qn1, qn2, qn3, qn4, qn5, qn6, qn7, qn8, qn9, qn10, qn11, qn12, qn13, qn14, qn15, qn16, qn17, qn18, qn24, qn30, qn31, qn32, qn33, qn36, qn38, qn40, qn41, qn42, qn43, qn45, qn47, qn48, qn49, qn50, qn51, qn52, qn53, qn57, qn58, qn59, qn60, qn61, qn62, qn63, qn91, qn93, qn97, qn99, qn100, qn103, qn104, qn112, qn113, qn115, qn116, qn118, qn119, qn121, qn124, qn173, qn177, qn240, qn255, qn295, qn352, qn353, qn533, qn999, qn1000, qn1023, qn6561, qn10000, qn20787, qn1000000, qn252645135, qn858993459, qn1000000000, qn1431655765, qj0, qj1, qj2, qj4, qj7, qj8, qj9, qj10, qj30, qj100, qj1000, qj1000000, qj1000000000, qj1442695040888963407, qj6364136223846793005, q_s1, q_s2, q_s3, q_s4, q_s5, iI_add, iI_sub, iI_mul, iI_neg, q_lt, q_le, q_eq, jI_add, jI_sub, jI_mul, jI_neg, jI_of, jI_to, j_le0, j_ge0, j_lt0, j_gt0, j_eq0, q_dvl, qz0, qz1, qz2, qz3, if_pos, if_neg, reduceIte, m_c49 D1.st]
  · refine ⟨iI (s 50), gs_up M 147 0 (iI 0), ?_, ?_, hI0.ag (ma_g0 iv_ag.rf _)⟩
    · unfold f_X11_count
      simp (disch := omega) only [qn0, qn1, qn2, qn3, qn4, qn5, qn6, qn7, qn8, qn9, qn10, qn11, qn12, qn13, qn14, qn15, qn16, qn17, qn18, qn24, qn30, qn31, qn32, qn33, qn36, qn38, qn40, qn41, qn42, qn43, qn45, qn47, qn48, qn49, qn50, qn51, qn52, qn53, qn57, qn58, qn59, qn60, qn61, qn62, qn63, qn91, qn93, qn97, qn99, qn100, qn103, qn104, qn112, qn113, qn115, qn116, qn118, qn119, qn121, qn124, qn173, qn177, qn240, qn255, qn295, qn352, qn353, qn533, qn999, qn1000, qn1023, qn6561, qn10000, qn20787, qn1000000, qn252645135, qn858993459, qn1000000000, qn1431655765, qj0, qj1, qj2, qj4, qj7, qj8, qj9, qj10, qj30, qj100, qj1000, qj1000000, qj1000000000, qj1442695040888963407, qj6364136223846793005, q_s1, q_s2, q_s3, q_s4, q_s5, iI_add, iI_sub, iI_mul, iI_neg, q_lt, q_le, q_eq, jI_add, jI_sub, jI_mul, jI_neg, jI_of, jI_to, j_le0, j_ge0, j_lt0, j_gt0, j_eq0, q_dvl, qz0, qz1, qz2, qz3, if_pos, if_neg, reduceIte, c_wrongs C.st]
    · unfold f_X12_count
      simp (disch := omega) only [qn0, qn1, qn2, qn3, qn4, qn5, qn6, qn7, qn8, qn9, qn10, qn11, qn12, qn13, qn14, qn15, qn16, qn17, qn18, qn24, qn30, qn31, qn32, qn33, qn36, qn38, qn40, qn41, qn42, qn43, qn45, qn47, qn48, qn49, qn50, qn51, qn52, qn53, qn57, qn58, qn59, qn60, qn61, qn62, qn63, qn91, qn93, qn97, qn99, qn100, qn103, qn104, qn112, qn113, qn115, qn116, qn118, qn119, qn121, qn124, qn173, qn177, qn240, qn255, qn295, qn352, qn353, qn533, qn999, qn1000, qn1023, qn6561, qn10000, qn20787, qn1000000, qn252645135, qn858993459, qn1000000000, qn1431655765, qj0, qj1, qj2, qj4, qj7, qj8, qj9, qj10, qj30, qj100, qj1000, qj1000000, qj1000000000, qj1442695040888963407, qj6364136223846793005, q_s1, q_s2, q_s3, q_s4, q_s5, iI_add, iI_sub, iI_mul, iI_neg, q_lt, q_le, q_eq, jI_add, jI_sub, jI_mul, jI_neg, jI_of, jI_to, j_le0, j_ge0, j_lt0, j_gt0, j_eq0, q_dvl, qz0, qz1, qz2, qz3, if_pos, if_neg, reduceIte, m_c50 D1.st]
  · refine ⟨iI (T 3 1), gs_up M 147 0 (iI 0), ?_, ?_, hI0.ag (ma_g0 iv_ag.rf _)⟩
    · unfold f_X11_count
      simp (disch := omega) only [qn0, qn1, qn2, qn3, qn4, qn5, qn6, qn7, qn8, qn9, qn10, qn11, qn12, qn13, qn14, qn15, qn16, qn17, qn18, qn24, qn30, qn31, qn32, qn33, qn36, qn38, qn40, qn41, qn42, qn43, qn45, qn47, qn48, qn49, qn50, qn51, qn52, qn53, qn57, qn58, qn59, qn60, qn61, qn62, qn63, qn91, qn93, qn97, qn99, qn100, qn103, qn104, qn112, qn113, qn115, qn116, qn118, qn119, qn121, qn124, qn173, qn177, qn240, qn255, qn295, qn352, qn353, qn533, qn999, qn1000, qn1023, qn6561, qn10000, qn20787, qn1000000, qn252645135, qn858993459, qn1000000000, qn1431655765, qj0, qj1, qj2, qj4, qj7, qj8, qj9, qj10, qj30, qj100, qj1000, qj1000000, qj1000000000, qj1442695040888963407, qj6364136223846793005, q_s1, q_s2, q_s3, q_s4, q_s5, iI_add, iI_sub, iI_mul, iI_neg, q_lt, q_le, q_eq, jI_add, jI_sub, jI_mul, jI_neg, jI_of, jI_to, j_le0, j_ge0, j_lt0, j_gt0, j_eq0, q_dvl, qz0, qz1, qz2, qz3, if_pos, if_neg, reduceIte, C.cr]
    · unfold f_X12_count
      simp (disch := omega) only [qn0, qn1, qn2, qn3, qn4, qn5, qn6, qn7, qn8, qn9, qn10, qn11, qn12, qn13, qn14, qn15, qn16, qn17, qn18, qn24, qn30, qn31, qn32, qn33, qn36, qn38, qn40, qn41, qn42, qn43, qn45, qn47, qn48, qn49, qn50, qn51, qn52, qn53, qn57, qn58, qn59, qn60, qn61, qn62, qn63, qn91, qn93, qn97, qn99, qn100, qn103, qn104, qn112, qn113, qn115, qn116, qn118, qn119, qn121, qn124, qn173, qn177, qn240, qn255, qn295, qn352, qn353, qn533, qn999, qn1000, qn1023, qn6561, qn10000, qn20787, qn1000000, qn252645135, qn858993459, qn1000000000, qn1431655765, qj0, qj1, qj2, qj4, qj7, qj8, qj9, qj10, qj30, qj100, qj1000, qj1000000, qj1000000000, qj1442695040888963407, qj6364136223846793005, q_s1, q_s2, q_s3, q_s4, q_s5, iI_add, iI_sub, iI_mul, iI_neg, q_lt, q_le, q_eq, jI_add, jI_sub, jI_mul, jI_neg, jI_of, jI_to, j_le0, j_ge0, j_lt0, j_gt0, j_eq0, q_dvl, qz0, qz1, qz2, qz3, if_pos, if_neg, reduceIte, D1.cr]
  · refine ⟨iI (T 3 6), gs_up M 147 0 (iI 0), ?_, ?_, hI0.ag (ma_g0 iv_ag.rf _)⟩
    · unfold f_X11_count
      simp (disch := omega) only [qn0, qn1, qn2, qn3, qn4, qn5, qn6, qn7, qn8, qn9, qn10, qn11, qn12, qn13, qn14, qn15, qn16, qn17, qn18, qn24, qn30, qn31, qn32, qn33, qn36, qn38, qn40, qn41, qn42, qn43, qn45, qn47, qn48, qn49, qn50, qn51, qn52, qn53, qn57, qn58, qn59, qn60, qn61, qn62, qn63, qn91, qn93, qn97, qn99, qn100, qn103, qn104, qn112, qn113, qn115, qn116, qn118, qn119, qn121, qn124, qn173, qn177, qn240, qn255, qn295, qn352, qn353, qn533, qn999, qn1000, qn1023, qn6561, qn10000, qn20787, qn1000000, qn252645135, qn858993459, qn1000000000, qn1431655765, qj0, qj1, qj2, qj4, qj7, qj8, qj9, qj10, qj30, qj100, qj1000, qj1000000, qj1000000000, qj1442695040888963407, qj6364136223846793005, q_s1, q_s2, q_s3, q_s4, q_s5, iI_add, iI_sub, iI_mul, iI_neg, q_lt, q_le, q_eq, jI_add, jI_sub, jI_mul, jI_neg, jI_of, jI_to, j_le0, j_ge0, j_lt0, j_gt0, j_eq0, q_dvl, qz0, qz1, qz2, qz3, if_pos, if_neg, reduceIte, f_X1_many, C.lp]
    · unfold f_X12_count
      simp (disch := omega) only [qn0, qn1, qn2, qn3, qn4, qn5, qn6, qn7, qn8, qn9, qn10, qn11, qn12, qn13, qn14, qn15, qn16, qn17, qn18, qn24, qn30, qn31, qn32, qn33, qn36, qn38, qn40, qn41, qn42, qn43, qn45, qn47, qn48, qn49, qn50, qn51, qn52, qn53, qn57, qn58, qn59, qn60, qn61, qn62, qn63, qn91, qn93, qn97, qn99, qn100, qn103, qn104, qn112, qn113, qn115, qn116, qn118, qn119, qn121, qn124, qn173, qn177, qn240, qn255, qn295, qn352, qn353, qn533, qn999, qn1000, qn1023, qn6561, qn10000, qn20787, qn1000000, qn252645135, qn858993459, qn1000000000, qn1431655765, qj0, qj1, qj2, qj4, qj7, qj8, qj9, qj10, qj30, qj100, qj1000, qj1000000, qj1000000000, qj1442695040888963407, qj6364136223846793005, q_s1, q_s2, q_s3, q_s4, q_s5, iI_add, iI_sub, iI_mul, iI_neg, q_lt, q_le, q_eq, jI_add, jI_sub, jI_mul, jI_neg, jI_of, jI_to, j_le0, j_ge0, j_lt0, j_gt0, j_eq0, q_dvl, qz0, qz1, qz2, qz3, if_pos, if_neg, reduceIte, D1.lp]
  · refine ⟨iI (s 51), gs_up M 147 0 (iI 0), ?_, ?_, hI0.ag (ma_g0 iv_ag.rf _)⟩
    · unfold f_X11_count
      simp (disch := omega) only [qn0, qn1, qn2, qn3, qn4, qn5, qn6, qn7, qn8, qn9, qn10, qn11, qn12, qn13, qn14, qn15, qn16, qn17, qn18, qn24, qn30, qn31, qn32, qn33, qn36, qn38, qn40, qn41, qn42, qn43, qn45, qn47, qn48, qn49, qn50, qn51, qn52, qn53, qn57, qn58, qn59, qn60, qn61, qn62, qn63, qn91, qn93, qn97, qn99, qn100, qn103, qn104, qn112, qn113, qn115, qn116, qn118, qn119, qn121, qn124, qn173, qn177, qn240, qn255, qn295, qn352, qn353, qn533, qn999, qn1000, qn1023, qn6561, qn10000, qn20787, qn1000000, qn252645135, qn858993459, qn1000000000, qn1431655765, qj0, qj1, qj2, qj4, qj7, qj8, qj9, qj10, qj30, qj100, qj1000, qj1000000, qj1000000000, qj1442695040888963407, qj6364136223846793005, q_s1, q_s2, q_s3, q_s4, q_s5, iI_add, iI_sub, iI_mul, iI_neg, q_lt, q_le, q_eq, jI_add, jI_sub, jI_mul, jI_neg, jI_of, jI_to, j_le0, j_ge0, j_lt0, j_gt0, j_eq0, q_dvl, qz0, qz1, qz2, qz3, if_pos, if_neg, reduceIte, c_books rfl C.st]
    · unfold f_X12_count
      simp (disch := omega) only [qn0, qn1, qn2, qn3, qn4, qn5, qn6, qn7, qn8, qn9, qn10, qn11, qn12, qn13, qn14, qn15, qn16, qn17, qn18, qn24, qn30, qn31, qn32, qn33, qn36, qn38, qn40, qn41, qn42, qn43, qn45, qn47, qn48, qn49, qn50, qn51, qn52, qn53, qn57, qn58, qn59, qn60, qn61, qn62, qn63, qn91, qn93, qn97, qn99, qn100, qn103, qn104, qn112, qn113, qn115, qn116, qn118, qn119, qn121, qn124, qn173, qn177, qn240, qn255, qn295, qn352, qn353, qn533, qn999, qn1000, qn1023, qn6561, qn10000, qn20787, qn1000000, qn252645135, qn858993459, qn1000000000, qn1431655765, qj0, qj1, qj2, qj4, qj7, qj8, qj9, qj10, qj30, qj100, qj1000, qj1000000, qj1000000000, qj1442695040888963407, qj6364136223846793005, q_s1, q_s2, q_s3, q_s4, q_s5, iI_add, iI_sub, iI_mul, iI_neg, q_lt, q_le, q_eq, jI_add, jI_sub, jI_mul, jI_neg, jI_of, jI_to, j_le0, j_ge0, j_lt0, j_gt0, j_eq0, q_dvl, qz0, qz1, qz2, qz3, if_pos, if_neg, reduceIte, m_bk D1.st]
  · refine ⟨iI (s 352), gs_up M 147 0 (iI 0), ?_, ?_, hI0.ag (ma_g0 iv_ag.rf _)⟩
    · unfold f_X11_count
      simp (disch := omega) only [qn0, qn1, qn2, qn3, qn4, qn5, qn6, qn7, qn8, qn9, qn10, qn11, qn12, qn13, qn14, qn15, qn16, qn17, qn18, qn24, qn30, qn31, qn32, qn33, qn36, qn38, qn40, qn41, qn42, qn43, qn45, qn47, qn48, qn49, qn50, qn51, qn52, qn53, qn57, qn58, qn59, qn60, qn61, qn62, qn63, qn91, qn93, qn97, qn99, qn100, qn103, qn104, qn112, qn113, qn115, qn116, qn118, qn119, qn121, qn124, qn173, qn177, qn240, qn255, qn295, qn352, qn353, qn533, qn999, qn1000, qn1023, qn6561, qn10000, qn20787, qn1000000, qn252645135, qn858993459, qn1000000000, qn1431655765, qj0, qj1, qj2, qj4, qj7, qj8, qj9, qj10, qj30, qj100, qj1000, qj1000000, qj1000000000, qj1442695040888963407, qj6364136223846793005, q_s1, q_s2, q_s3, q_s4, q_s5, iI_add, iI_sub, iI_mul, iI_neg, q_lt, q_le, q_eq, jI_add, jI_sub, jI_mul, jI_neg, jI_of, jI_to, j_le0, j_ge0, j_lt0, j_gt0, j_eq0, q_dvl, qz0, qz1, qz2, qz3, if_pos, if_neg, reduceIte, c_logs C.st]
    · unfold f_X12_count
      simp (disch := omega) only [qn0, qn1, qn2, qn3, qn4, qn5, qn6, qn7, qn8, qn9, qn10, qn11, qn12, qn13, qn14, qn15, qn16, qn17, qn18, qn24, qn30, qn31, qn32, qn33, qn36, qn38, qn40, qn41, qn42, qn43, qn45, qn47, qn48, qn49, qn50, qn51, qn52, qn53, qn57, qn58, qn59, qn60, qn61, qn62, qn63, qn91, qn93, qn97, qn99, qn100, qn103, qn104, qn112, qn113, qn115, qn116, qn118, qn119, qn121, qn124, qn173, qn177, qn240, qn255, qn295, qn352, qn353, qn533, qn999, qn1000, qn1023, qn6561, qn10000, qn20787, qn1000000, qn252645135, qn858993459, qn1000000000, qn1431655765, qj0, qj1, qj2, qj4, qj7, qj8, qj9, qj10, qj30, qj100, qj1000, qj1000000, qj1000000000, qj1442695040888963407, qj6364136223846793005, q_s1, q_s2, q_s3, q_s4, q_s5, iI_add, iI_sub, iI_mul, iI_neg, q_lt, q_le, q_eq, jI_add, jI_sub, jI_mul, jI_neg, jI_of, jI_to, j_le0, j_ge0, j_lt0, j_gt0, j_eq0, q_dvl, qz0, qz1, qz2, qz3, if_pos, if_neg, reduceIte, m_c352 D1.st]
  · refine ⟨iI (T 3 9), gs_up M 147 0 (iI 0), ?_, ?_, hI0.ag (ma_g0 iv_ag.rf _)⟩
    · unfold f_X11_count
      simp (disch := omega) only [qn0, qn1, qn2, qn3, qn4, qn5, qn6, qn7, qn8, qn9, qn10, qn11, qn12, qn13, qn14, qn15, qn16, qn17, qn18, qn24, qn30, qn31, qn32, qn33, qn36, qn38, qn40, qn41, qn42, qn43, qn45, qn47, qn48, qn49, qn50, qn51, qn52, qn53, qn57, qn58, qn59, qn60, qn61, qn62, qn63, qn91, qn93, qn97, qn99, qn100, qn103, qn104, qn112, qn113, qn115, qn116, qn118, qn119, qn121, qn124, qn173, qn177, qn240, qn255, qn295, qn352, qn353, qn533, qn999, qn1000, qn1023, qn6561, qn10000, qn20787, qn1000000, qn252645135, qn858993459, qn1000000000, qn1431655765, qj0, qj1, qj2, qj4, qj7, qj8, qj9, qj10, qj30, qj100, qj1000, qj1000000, qj1000000000, qj1442695040888963407, qj6364136223846793005, q_s1, q_s2, q_s3, q_s4, q_s5, iI_add, iI_sub, iI_mul, iI_neg, q_lt, q_le, q_eq, jI_add, jI_sub, jI_mul, jI_neg, jI_of, jI_to, j_le0, j_ge0, j_lt0, j_gt0, j_eq0, q_dvl, qz0, qz1, qz2, qz3, if_pos, if_neg, reduceIte, f_X0_many, C.ac]
    · unfold f_X12_count
      simp (disch := omega) only [qn0, qn1, qn2, qn3, qn4, qn5, qn6, qn7, qn8, qn9, qn10, qn11, qn12, qn13, qn14, qn15, qn16, qn17, qn18, qn24, qn30, qn31, qn32, qn33, qn36, qn38, qn40, qn41, qn42, qn43, qn45, qn47, qn48, qn49, qn50, qn51, qn52, qn53, qn57, qn58, qn59, qn60, qn61, qn62, qn63, qn91, qn93, qn97, qn99, qn100, qn103, qn104, qn112, qn113, qn115, qn116, qn118, qn119, qn121, qn124, qn173, qn177, qn240, qn255, qn295, qn352, qn353, qn533, qn999, qn1000, qn1023, qn6561, qn10000, qn20787, qn1000000, qn252645135, qn858993459, qn1000000000, qn1431655765, qj0, qj1, qj2, qj4, qj7, qj8, qj9, qj10, qj30, qj100, qj1000, qj1000000, qj1000000000, qj1442695040888963407, qj6364136223846793005, q_s1, q_s2, q_s3, q_s4, q_s5, iI_add, iI_sub, iI_mul, iI_neg, q_lt, q_le, q_eq, jI_add, jI_sub, jI_mul, jI_neg, jI_of, jI_to, j_le0, j_ge0, j_lt0, j_gt0, j_eq0, q_dvl, qz0, qz1, qz2, qz3, if_pos, if_neg, reduceIte, D1.ac]
  · refine ⟨iI (-1000000), gs_up M 147 0 (iI 0), ?_, ?_, hI0.ag (ma_g0 iv_ag.rf _)⟩
    · unfold f_X11_count
      simp (disch := omega) only [qn0, qn1, qn2, qn3, qn4, qn5, qn6, qn7, qn8, qn9, qn10, qn11, qn12, qn13, qn14, qn15, qn16, qn17, qn18, qn24, qn30, qn31, qn32, qn33, qn36, qn38, qn40, qn41, qn42, qn43, qn45, qn47, qn48, qn49, qn50, qn51, qn52, qn53, qn57, qn58, qn59, qn60, qn61, qn62, qn63, qn91, qn93, qn97, qn99, qn100, qn103, qn104, qn112, qn113, qn115, qn116, qn118, qn119, qn121, qn124, qn173, qn177, qn240, qn255, qn295, qn352, qn353, qn533, qn999, qn1000, qn1023, qn6561, qn10000, qn20787, qn1000000, qn252645135, qn858993459, qn1000000000, qn1431655765, qj0, qj1, qj2, qj4, qj7, qj8, qj9, qj10, qj30, qj100, qj1000, qj1000000, qj1000000000, qj1442695040888963407, qj6364136223846793005, q_s1, q_s2, q_s3, q_s4, q_s5, iI_add, iI_sub, iI_mul, iI_neg, q_lt, q_le, q_eq, jI_add, jI_sub, jI_mul, jI_neg, jI_of, jI_to, j_le0, j_ge0, j_lt0, j_gt0, j_eq0, q_dvl, qz0, qz1, qz2, qz3, if_pos, if_neg, reduceIte]
    · unfold f_X12_count
      simp (disch := omega) only [qn0, qn1, qn2, qn3, qn4, qn5, qn6, qn7, qn8, qn9, qn10, qn11, qn12, qn13, qn14, qn15, qn16, qn17, qn18, qn24, qn30, qn31, qn32, qn33, qn36, qn38, qn40, qn41, qn42, qn43, qn45, qn47, qn48, qn49, qn50, qn51, qn52, qn53, qn57, qn58, qn59, qn60, qn61, qn62, qn63, qn91, qn93, qn97, qn99, qn100, qn103, qn104, qn112, qn113, qn115, qn116, qn118, qn119, qn121, qn124, qn173, qn177, qn240, qn255, qn295, qn352, qn353, qn533, qn999, qn1000, qn1023, qn6561, qn10000, qn20787, qn1000000, qn252645135, qn858993459, qn1000000000, qn1431655765, qj0, qj1, qj2, qj4, qj7, qj8, qj9, qj10, qj30, qj100, qj1000, qj1000000, qj1000000000, qj1442695040888963407, qj6364136223846793005, q_s1, q_s2, q_s3, q_s4, q_s5, iI_add, iI_sub, iI_mul, iI_neg, q_lt, q_le, q_eq, jI_add, jI_sub, jI_mul, jI_neg, jI_of, jI_to, j_le0, j_ge0, j_lt0, j_gt0, j_eq0, q_dvl, qz0, qz1, qz2, qz3, if_pos, if_neg, reduceIte]
  · refine ⟨iI (-1000000), gs_up M 147 0 (iI 0), ?_, ?_, hI0.ag (ma_g0 iv_ag.rf _)⟩
    · unfold f_X11_count
      simp (disch := omega) only [qn0, qn1, qn2, qn3, qn4, qn5, qn6, qn7, qn8, qn9, qn10, qn11, qn12, qn13, qn14, qn15, qn16, qn17, qn18, qn24, qn30, qn31, qn32, qn33, qn36, qn38, qn40, qn41, qn42, qn43, qn45, qn47, qn48, qn49, qn50, qn51, qn52, qn53, qn57, qn58, qn59, qn60, qn61, qn62, qn63, qn91, qn93, qn97, qn99, qn100, qn103, qn104, qn112, qn113, qn115, qn116, qn118, qn119, qn121, qn124, qn173, qn177, qn240, qn255, qn295, qn352, qn353, qn533, qn999, qn1000, qn1023, qn6561, qn10000, qn20787, qn1000000, qn252645135, qn858993459, qn1000000000, qn1431655765, qj0, qj1, qj2, qj4, qj7, qj8, qj9, qj10, qj30, qj100, qj1000, qj1000000, qj1000000000, qj1442695040888963407, qj6364136223846793005, q_s1, q_s2, q_s3, q_s4, q_s5, iI_add, iI_sub, iI_mul, iI_neg, q_lt, q_le, q_eq, jI_add, jI_sub, jI_mul, jI_neg, jI_of, jI_to, j_le0, j_ge0, j_lt0, j_gt0, j_eq0, q_dvl, qz0, qz1, qz2, qz3, if_pos, if_neg, reduceIte]
    · unfold f_X12_count
      simp (disch := omega) only [qn0, qn1, qn2, qn3, qn4, qn5, qn6, qn7, qn8, qn9, qn10, qn11, qn12, qn13, qn14, qn15, qn16, qn17, qn18, qn24, qn30, qn31, qn32, qn33, qn36, qn38, qn40, qn41, qn42, qn43, qn45, qn47, qn48, qn49, qn50, qn51, qn52, qn53, qn57, qn58, qn59, qn60, qn61, qn62, qn63, qn91, qn93, qn97, qn99, qn100, qn103, qn104, qn112, qn113, qn115, qn116, qn118, qn119, qn121, qn124, qn173, qn177, qn240, qn255, qn295, qn352, qn353, qn533, qn999, qn1000, qn1023, qn6561, qn10000, qn20787, qn1000000, qn252645135, qn858993459, qn1000000000, qn1431655765, qj0, qj1, qj2, qj4, qj7, qj8, qj9, qj10, qj30, qj100, qj1000, qj1000000, qj1000000000, qj1442695040888963407, qj6364136223846793005, q_s1, q_s2, q_s3, q_s4, q_s5, iI_add, iI_sub, iI_mul, iI_neg, q_lt, q_le, q_eq, jI_add, jI_sub, jI_mul, jI_neg, jI_of, jI_to, j_le0, j_ge0, j_lt0, j_gt0, j_eq0, q_dvl, qz0, qz1, qz2, qz3, if_pos, if_neg, reduceIte]
theorem s_person : gl_S_person ma_Inv := by
  intro M L hI x1 x2
  have hI0 := hI
  obtain ⟨s, T, V, W, C, D⟩ := hI
  have w := W.2.1
  have hv : ∀ v : Int32, ∀ w : Int64, ma_Inv (gs_up M 147 0 v) (gs_upl L 170 0 w) ∧ ma_Inv (gs_up M 147 0 v) L := fun v w => ⟨hI0.ag (ma_g0 iv_ag.rf _), hI0.ag (ma_g0 iv_ag.rf _)⟩
  have ht : ∀ v : Int32, f_X12_thrown (gs_up M 147 0 v) = some v := fun v => by
    unfold f_X12_thrown
    rw [gs_up_eq]
  have D1 := ma_D0 D w (iI 0)
  have t1 : gs_up M 147 0 (iI 1) 147 0 = iI 1 := gs_up_eq _ _ _ _
  have t0 : gs_up M 147 0 (iI 0) 147 0 = iI 0 := gs_up_eq _ _ _ _
  rcases ma_isP W x1 with ⟨n1, n2⟩ | ⟨p, hp, p8, rfl⟩
  · refine ⟨iI 1, iI 0, iI 0, gs_up M 147 0 (iI 1), ?_, Or.inr rfl, ?_, ht _, fun h => absurd h (by decide), hv _⟩
    · unfold f_X11_person
      simp (disch := omega) only [qn0, qn1, qn2, qn3, qn4, qn5, qn6, qn7, qn8, qn9, qn10, qn11, qn12, qn13, qn14, qn15, qn16, qn17, qn18, qn24, qn30, qn31, qn32, qn33, qn36, qn38, qn40, qn41, qn42, qn43, qn45, qn47, qn48, qn49, qn50, qn51, qn52, qn53, qn57, qn58, qn59, qn60, qn61, qn62, qn63, qn91, qn93, qn97, qn99, qn100, qn103, qn104, qn112, qn113, qn115, qn116, qn118, qn119, qn121, qn124, qn173, qn177, qn240, qn255, qn295, qn352, qn353, qn533, qn999, qn1000, qn1023, qn6561, qn10000, qn20787, qn1000000, qn252645135, qn858993459, qn1000000000, qn1431655765, qj0, qj1, qj2, qj4, qj7, qj8, qj9, qj10, qj30, qj100, qj1000, qj1000000, qj1000000000, qj1442695040888963407, qj6364136223846793005, q_s1, q_s2, q_s3, q_s4, q_s5, iI_add, iI_sub, iI_mul, iI_neg, q_lt, q_le, q_eq, jI_add, jI_sub, jI_mul, jI_neg, jI_of, jI_to, j_le0, j_ge0, j_lt0, j_gt0, j_eq0, q_dvl, qz0, qz1, qz2, qz3, if_pos, if_neg, reduceIte, n1 M C]
    · unfold f_X12_person
      simp (disch := omega) only [qn0, qn1, qn2, qn3, qn4, qn5, qn6, qn7, qn8, qn9, qn10, qn11, qn12, qn13, qn14, qn15, qn16, qn17, qn18, qn24, qn30, qn31, qn32, qn33, qn36, qn38, qn40, qn41, qn42, qn43, qn45, qn47, qn48, qn49, qn50, qn51, qn52, qn53, qn57, qn58, qn59, qn60, qn61, qn62, qn63, qn91, qn93, qn97, qn99, qn100, qn103, qn104, qn112, qn113, qn115, qn116, qn118, qn119, qn121, qn124, qn173, qn177, qn240, qn255, qn295, qn352, qn353, qn533, qn999, qn1000, qn1023, qn6561, qn10000, qn20787, qn1000000, qn252645135, qn858993459, qn1000000000, qn1431655765, qj0, qj1, qj2, qj4, qj7, qj8, qj9, qj10, qj30, qj100, qj1000, qj1000000, qj1000000000, qj1442695040888963407, qj6364136223846793005, q_s1, q_s2, q_s3, q_s4, q_s5, iI_add, iI_sub, iI_mul, iI_neg, q_lt, q_le, q_eq, jI_add, jI_sub, jI_mul, jI_neg, jI_of, jI_to, j_le0, j_ge0, j_lt0, j_gt0, j_eq0, q_dvl, qz0, qz1, qz2, qz3, if_pos, if_neg, reduceIte, n2 M D, t1]
  obtain ⟨z, z1, z2, rfl⟩ := q_any x2
  rcases (by omega : z < 0 ∨ 7 < z ∨ z = 0 ∨ z = 1 ∨ z = 2 ∨ z = 3 ∨ z = 4 ∨ z = 5 ∨ z = 6 ∨ z = 7) with d | d | d | d | d | d | d | d | d | d
  · refine ⟨iI 1, iI 0, iI 0, gs_up M 147 0 (iI 1), ?_, Or.inr rfl, ?_, ht _, fun h => absurd h (by decide), hv _⟩
    · unfold f_X11_person
      simp (disch := omega) only [qn0, qn1, qn2, qn3, qn4, qn5, qn6, qn7, qn8, qn9, qn10, qn11, qn12, qn13, qn14, qn15, qn16, qn17, qn18, qn24, qn30, qn31, qn32, qn33, qn36, qn38, qn40, qn41, qn42, qn43, qn45, qn47, qn48, qn49, qn50, qn51, qn52, qn53, qn57, qn58, qn59, qn60, qn61, qn62, qn63, qn91, qn93, qn97, qn99, qn100, qn103, qn104, qn112, qn113, qn115, qn116, qn118, qn119, qn121, qn124, qn173, qn177, qn240, qn255, qn295, qn352, qn353, qn533, qn999, qn1000, qn1023, qn6561, qn10000, qn20787, qn1000000, qn252645135, qn858993459, qn1000000000, qn1431655765, qj0, qj1, qj2, qj4, qj7, qj8, qj9, qj10, qj30, qj100, qj1000, qj1000000, qj1000000000, qj1442695040888963407, qj6364136223846793005, q_s1, q_s2, q_s3, q_s4, q_s5, iI_add, iI_sub, iI_mul, iI_neg, q_lt, q_le, q_eq, jI_add, jI_sub, jI_mul, jI_neg, jI_of, jI_to, j_le0, j_ge0, j_lt0, j_gt0, j_eq0, q_dvl, qz0, qz1, qz2, qz3, if_pos, if_neg, reduceIte, c_isP w C hp]
    · unfold f_X12_person
      simp (disch := omega) only [qn0, qn1, qn2, qn3, qn4, qn5, qn6, qn7, qn8, qn9, qn10, qn11, qn12, qn13, qn14, qn15, qn16, qn17, qn18, qn24, qn30, qn31, qn32, qn33, qn36, qn38, qn40, qn41, qn42, qn43, qn45, qn47, qn48, qn49, qn50, qn51, qn52, qn53, qn57, qn58, qn59, qn60, qn61, qn62, qn63, qn91, qn93, qn97, qn99, qn100, qn103, qn104, qn112, qn113, qn115, qn116, qn118, qn119, qn121, qn124, qn173, qn177, qn240, qn255, qn295, qn352, qn353, qn533, qn999, qn1000, qn1023, qn6561, qn10000, qn20787, qn1000000, qn252645135, qn858993459, qn1000000000, qn1431655765, qj0, qj1, qj2, qj4, qj7, qj8, qj9, qj10, qj30, qj100, qj1000, qj1000000, qj1000000000, qj1442695040888963407, qj6364136223846793005, q_s1, q_s2, q_s3, q_s4, q_s5, iI_add, iI_sub, iI_mul, iI_neg, q_lt, q_le, q_eq, jI_add, jI_sub, jI_mul, jI_neg, jI_of, jI_to, j_le0, j_ge0, j_lt0, j_gt0, j_eq0, q_dvl, qz0, qz1, qz2, qz3, if_pos, if_neg, reduceIte, m_isP w D hp, m_isOut, t1]
  · refine ⟨iI 1, iI 0, iI 0, gs_up M 147 0 (iI 1), ?_, Or.inr rfl, ?_, ht _, fun h => absurd h (by decide), hv _⟩
    · unfold f_X11_person
      simp (disch := omega) only [qn0, qn1, qn2, qn3, qn4, qn5, qn6, qn7, qn8, qn9, qn10, qn11, qn12, qn13, qn14, qn15, qn16, qn17, qn18, qn24, qn30, qn31, qn32, qn33, qn36, qn38, qn40, qn41, qn42, qn43, qn45, qn47, qn48, qn49, qn50, qn51, qn52, qn53, qn57, qn58, qn59, qn60, qn61, qn62, qn63, qn91, qn93, qn97, qn99, qn100, qn103, qn104, qn112, qn113, qn115, qn116, qn118, qn119, qn121, qn124, qn173, qn177, qn240, qn255, qn295, qn352, qn353, qn533, qn999, qn1000, qn1023, qn6561, qn10000, qn20787, qn1000000, qn252645135, qn858993459, qn1000000000, qn1431655765, qj0, qj1, qj2, qj4, qj7, qj8, qj9, qj10, qj30, qj100, qj1000, qj1000000, qj1000000000, qj1442695040888963407, qj6364136223846793005, q_s1, q_s2, q_s3, q_s4, q_s5, iI_add, iI_sub, iI_mul, iI_neg, q_lt, q_le, q_eq, jI_add, jI_sub, jI_mul, jI_neg, jI_of, jI_to, j_le0, j_ge0, j_lt0, j_gt0, j_eq0, q_dvl, qz0, qz1, qz2, qz3, if_pos, if_neg, reduceIte, c_isP w C hp]
    · unfold f_X12_person
      simp (disch := omega) only [qn0, qn1, qn2, qn3, qn4, qn5, qn6, qn7, qn8, qn9, qn10, qn11, qn12, qn13, qn14, qn15, qn16, qn17, qn18, qn24, qn30, qn31, qn32, qn33, qn36, qn38, qn40, qn41, qn42, qn43, qn45, qn47, qn48, qn49, qn50, qn51, qn52, qn53, qn57, qn58, qn59, qn60, qn61, qn62, qn63, qn91, qn93, qn97, qn99, qn100, qn103, qn104, qn112, qn113, qn115, qn116, qn118, qn119, qn121, qn124, qn173, qn177, qn240, qn255, qn295, qn352, qn353, qn533, qn999, qn1000, qn1023, qn6561, qn10000, qn20787, qn1000000, qn252645135, qn858993459, qn1000000000, qn1431655765, qj0, qj1, qj2, qj4, qj7, qj8, qj9, qj10, qj30, qj100, qj1000, qj1000000, qj1000000000, qj1442695040888963407, qj6364136223846793005, q_s1, q_s2, q_s3, q_s4, q_s5, iI_add, iI_sub, iI_mul, iI_neg, q_lt, q_le, q_eq, jI_add, jI_sub, jI_mul, jI_neg, jI_of, jI_to, j_le0, j_ge0, j_lt0, j_gt0, j_eq0, q_dvl, qz0, qz1, qz2, qz3, if_pos, if_neg, reduceIte, m_isP w D hp, m_isOut, t1]
  · subst d
    have e1 := c_of0 C.st p8
    have e2 := m_of0 D1.st p8
    refine ⟨iI 0, iI (s (6 * p)), iI (s (6 * p)), gs_up M 147 0 (iI 0), ?_, Or.inl rfl, ?_, ht _, fun _ => rfl, hv _⟩
    · unfold f_X11_person
      simp (disch := omega) only [qn0, qn1, qn2, qn3, qn4, qn5, qn6, qn7, qn8, qn9, qn10, qn11, qn12, qn13, qn14, qn15, qn16, qn17, qn18, qn24, qn30, qn31, qn32, qn33, qn36, qn38, qn40, qn41, qn42, qn43, qn45, qn47, qn48, qn49, qn50, qn51, qn52, qn53, qn57, qn58, qn59, qn60, qn61, qn62, qn63, qn91, qn93, qn97, qn99, qn100, qn103, qn104, qn112, qn113, qn115, qn116, qn118, qn119, qn121, qn124, qn173, qn177, qn240, qn255, qn295, qn352, qn353, qn533, qn999, qn1000, qn1023, qn6561, qn10000, qn20787, qn1000000, qn252645135, qn858993459, qn1000000000, qn1431655765, qj0, qj1, qj2, qj4, qj7, qj8, qj9, qj10, qj30, qj100, qj1000, qj1000000, qj1000000000, qj1442695040888963407, qj6364136223846793005, q_s1, q_s2, q_s3, q_s4, q_s5, iI_add, iI_sub, iI_mul, iI_neg, q_lt, q_le, q_eq, jI_add, jI_sub, jI_mul, jI_neg, jI_of, jI_to, j_le0, j_ge0, j_lt0, j_gt0, j_eq0, q_dvl, qz0, qz1, qz2, qz3, if_pos, if_neg, reduceIte, c_isP w C hp, e1]
    · unfold f_X12_person
      simp (disch := omega) only [qn0, qn1, qn2, qn3, qn4, qn5, qn6, qn7, qn8, qn9, qn10, qn11, qn12, qn13, qn14, qn15, qn16, qn17, qn18, qn24, qn30, qn31, qn32, qn33, qn36, qn38, qn40, qn41, qn42, qn43, qn45, qn47, qn48, qn49, qn50, qn51, qn52, qn53, qn57, qn58, qn59, qn60, qn61, qn62, qn63, qn91, qn93, qn97, qn99, qn100, qn103, qn104, qn112, qn113, qn115, qn116, qn118, qn119, qn121, qn124, qn173, qn177, qn240, qn255, qn295, qn352, qn353, qn533, qn999, qn1000, qn1023, qn6561, qn10000, qn20787, qn1000000, qn252645135, qn858993459, qn1000000000, qn1431655765, qj0, qj1, qj2, qj4, qj7, qj8, qj9, qj10, qj30, qj100, qj1000, qj1000000, qj1000000000, qj1442695040888963407, qj6364136223846793005, q_s1, q_s2, q_s3, q_s4, q_s5, iI_add, iI_sub, iI_mul, iI_neg, q_lt, q_le, q_eq, jI_add, jI_sub, jI_mul, jI_neg, jI_of, jI_to, j_le0, j_ge0, j_lt0, j_gt0, j_eq0, q_dvl, qz0, qz1, qz2, qz3, if_pos, if_neg, reduceIte, m_isP w D hp, m_isIn, t0, e2]
  · subst d
    have e1 := c_con C hp p8
    have e2 := m_con D1 hp p8
    refine ⟨iI 0, iI (T 2 (5 * p + 1)), iI (T 2 (5 * p + 1)), gs_up M 147 0 (iI 0), ?_, Or.inl rfl, ?_, ht _, fun _ => rfl, hv _⟩
    · unfold f_X11_person
      simp (disch := omega) only [qn0, qn1, qn2, qn3, qn4, qn5, qn6, qn7, qn8, qn9, qn10, qn11, qn12, qn13, qn14, qn15, qn16, qn17, qn18, qn24, qn30, qn31, qn32, qn33, qn36, qn38, qn40, qn41, qn42, qn43, qn45, qn47, qn48, qn49, qn50, qn51, qn52, qn53, qn57, qn58, qn59, qn60, qn61, qn62, qn63, qn91, qn93, qn97, qn99, qn100, qn103, qn104, qn112, qn113, qn115, qn116, qn118, qn119, qn121, qn124, qn173, qn177, qn240, qn255, qn295, qn352, qn353, qn533, qn999, qn1000, qn1023, qn6561, qn10000, qn20787, qn1000000, qn252645135, qn858993459, qn1000000000, qn1431655765, qj0, qj1, qj2, qj4, qj7, qj8, qj9, qj10, qj30, qj100, qj1000, qj1000000, qj1000000000, qj1442695040888963407, qj6364136223846793005, q_s1, q_s2, q_s3, q_s4, q_s5, iI_add, iI_sub, iI_mul, iI_neg, q_lt, q_le, q_eq, jI_add, jI_sub, jI_mul, jI_neg, jI_of, jI_to, j_le0, j_ge0, j_lt0, j_gt0, j_eq0, q_dvl, qz0, qz1, qz2, qz3, if_pos, if_neg, reduceIte, c_isP w C hp, e1]
    · unfold f_X12_person
      simp (disch := omega) only [qn0, qn1, qn2, qn3, qn4, qn5, qn6, qn7, qn8, qn9, qn10, qn11, qn12, qn13, qn14, qn15, qn16, qn17, qn18, qn24, qn30, qn31, qn32, qn33, qn36, qn38, qn40, qn41, qn42, qn43, qn45, qn47, qn48, qn49, qn50, qn51, qn52, qn53, qn57, qn58, qn59, qn60, qn61, qn62, qn63, qn91, qn93, qn97, qn99, qn100, qn103, qn104, qn112, qn113, qn115, qn116, qn118, qn119, qn121, qn124, qn173, qn177, qn240, qn255, qn295, qn352, qn353, qn533, qn999, qn1000, qn1023, qn6561, qn10000, qn20787, qn1000000, qn252645135, qn858993459, qn1000000000, qn1431655765, qj0, qj1, qj2, qj4, qj7, qj8, qj9, qj10, qj30, qj100, qj1000, qj1000000, qj1000000000, qj1442695040888963407, qj6364136223846793005, q_s1, q_s2, q_s3, q_s4, q_s5, iI_add, iI_sub, iI_mul, iI_neg, q_lt, q_le, q_eq, jI_add, jI_sub, jI_mul, jI_neg, jI_of, jI_to, j_le0, j_ge0, j_lt0, j_gt0, j_eq0, q_dvl, qz0, qz1, qz2, qz3, if_pos, if_neg, reduceIte, m_isP w D hp, m_isIn, t0, e2]
  · subst d
    have e1 := c_of1 C.st p8
    have e2 := m_of1 D1.st p8
    refine ⟨iI 0, iI (s (6 * p + 1)), iI (s (6 * p + 1)), gs_up M 147 0 (iI 0), ?_, Or.inl rfl, ?_, ht _, fun _ => rfl, hv _⟩
    · unfold f_X11_person
      simp (disch := omega) only [qn0, qn1, qn2, qn3, qn4, qn5, qn6, qn7, qn8, qn9, qn10, qn11, qn12, qn13, qn14, qn15, qn16, qn17, qn18, qn24, qn30, qn31, qn32, qn33, qn36, qn38, qn40, qn41, qn42, qn43, qn45, qn47, qn48, qn49, qn50, qn51, qn52, qn53, qn57, qn58, qn59, qn60, qn61, qn62, qn63, qn91, qn93, qn97, qn99, qn100, qn103, qn104, qn112, qn113, qn115, qn116, qn118, qn119, qn121, qn124, qn173, qn177, qn240, qn255, qn295, qn352, qn353, qn533, qn999, qn1000, qn1023, qn6561, qn10000, qn20787, qn1000000, qn252645135, qn858993459, qn1000000000, qn1431655765, qj0, qj1, qj2, qj4, qj7, qj8, qj9, qj10, qj30, qj100, qj1000, qj1000000, qj1000000000, qj1442695040888963407, qj6364136223846793005, q_s1, q_s2, q_s3, q_s4, q_s5, iI_add, iI_sub, iI_mul, iI_neg, q_lt, q_le, q_eq, jI_add, jI_sub, jI_mul, jI_neg, jI_of, jI_to, j_le0, j_ge0, j_lt0, j_gt0, j_eq0, q_dvl, qz0, qz1, qz2, qz3, if_pos, if_neg, reduceIte, c_isP w C hp, e1]
    · unfold f_X12_person
      simp (disch := omega) only [qn0, qn1, qn2, qn3, qn4, qn5, qn6, qn7, qn8, qn9, qn10, qn11, qn12, qn13, qn14, qn15, qn16, qn17, qn18, qn24, qn30, qn31, qn32, qn33, qn36, qn38, qn40, qn41, qn42, qn43, qn45, qn47, qn48, qn49, qn50, qn51, qn52, qn53, qn57, qn58, qn59, qn60, qn61, qn62, qn63, qn91, qn93, qn97, qn99, qn100, qn103, qn104, qn112, qn113, qn115, qn116, qn118, qn119, qn121, qn124, qn173, qn177, qn240, qn255, qn295, qn352, qn353, qn533, qn999, qn1000, qn1023, qn6561, qn10000, qn20787, qn1000000, qn252645135, qn858993459, qn1000000000, qn1431655765, qj0, qj1, qj2, qj4, qj7, qj8, qj9, qj10, qj30, qj100, qj1000, qj1000000, qj1000000000, qj1442695040888963407, qj6364136223846793005, q_s1, q_s2, q_s3, q_s4, q_s5, iI_add, iI_sub, iI_mul, iI_neg, q_lt, q_le, q_eq, jI_add, jI_sub, jI_mul, jI_neg, jI_of, jI_to, j_le0, j_ge0, j_lt0, j_gt0, j_eq0, q_dvl, qz0, qz1, qz2, qz3, if_pos, if_neg, reduceIte, m_isP w D hp, m_isIn, t0, e2]
  · subst d
    have e1 := c_of2 C.st p8
    have e2 := m_of2 D1.st p8
    refine ⟨iI 0, iI (s (6 * p + 2)), iI (s (6 * p + 2)), gs_up M 147 0 (iI 0), ?_, Or.inl rfl, ?_, ht _, fun _ => rfl, hv _⟩
    · unfold f_X11_person
      simp (disch := omega) only [qn0, qn1, qn2, qn3, qn4, qn5, qn6, qn7, qn8, qn9, qn10, qn11, qn12, qn13, qn14, qn15, qn16, qn17, qn18, qn24, qn30, qn31, qn32, qn33, qn36, qn38, qn40, qn41, qn42, qn43, qn45, qn47, qn48, qn49, qn50, qn51, qn52, qn53, qn57, qn58, qn59, qn60, qn61, qn62, qn63, qn91, qn93, qn97, qn99, qn100, qn103, qn104, qn112, qn113, qn115, qn116, qn118, qn119, qn121, qn124, qn173, qn177, qn240, qn255, qn295, qn352, qn353, qn533, qn999, qn1000, qn1023, qn6561, qn10000, qn20787, qn1000000, qn252645135, qn858993459, qn1000000000, qn1431655765, qj0, qj1, qj2, qj4, qj7, qj8, qj9, qj10, qj30, qj100, qj1000, qj1000000, qj1000000000, qj1442695040888963407, qj6364136223846793005, q_s1, q_s2, q_s3, q_s4, q_s5, iI_add, iI_sub, iI_mul, iI_neg, q_lt, q_le, q_eq, jI_add, jI_sub, jI_mul, jI_neg, jI_of, jI_to, j_le0, j_ge0, j_lt0, j_gt0, j_eq0, q_dvl, qz0, qz1, qz2, qz3, if_pos, if_neg, reduceIte, c_isP w C hp, e1]
    · unfold f_X12_person
      simp (disch := omega) only [qn0, qn1, qn2, qn3, qn4, qn5, qn6, qn7, qn8, qn9, qn10, qn11, qn12, qn13, qn14, qn15, qn16, qn17, qn18, qn24, qn30, qn31, qn32, qn33, qn36, qn38, qn40, qn41, qn42, qn43, qn45, qn47, qn48, qn49, qn50, qn51, qn52, qn53, qn57, qn58, qn59, qn60, qn61, qn62, qn63, qn91, qn93, qn97, qn99, qn100, qn103, qn104, qn112, qn113, qn115, qn116, qn118, qn119, qn121, qn124, qn173, qn177, qn240, qn255, qn295, qn352, qn353, qn533, qn999, qn1000, qn1023, qn6561, qn10000, qn20787, qn1000000, qn252645135, qn858993459, qn1000000000, qn1431655765, qj0, qj1, qj2, qj4, qj7, qj8, qj9, qj10, qj30, qj100, qj1000, qj1000000, qj1000000000, qj1442695040888963407, qj6364136223846793005, q_s1, q_s2, q_s3, q_s4, q_s5, iI_add, iI_sub, iI_mul, iI_neg, q_lt, q_le, q_eq, jI_add, jI_sub, jI_mul, jI_neg, jI_of, jI_to, j_le0, j_ge0, j_lt0, j_gt0, j_eq0, q_dvl, qz0, qz1, qz2, qz3, if_pos, if_neg, reduceIte, m_isP w D hp, m_isIn, t0, e2]
  · subst d
    have e1 := c_sp w C hp
    have e2 := m_sp w D1 hp
    refine ⟨iI 0, iI (if T 2 (5 * p + 4) = 8 then -1 else T 2 (5 * p + 4)), iI (if T 2 (5 * p + 4) = 8 then -1 else T 2 (5 * p + 4)), gs_up M 147 0 (iI 0), ?_, Or.inl rfl, ?_, ht _, fun _ => rfl, hv _⟩
    · unfold f_X11_person
      simp (disch := omega) only [qn0, qn1, qn2, qn3, qn4, qn5, qn6, qn7, qn8, qn9, qn10, qn11, qn12, qn13, qn14, qn15, qn16, qn17, qn18, qn24, qn30, qn31, qn32, qn33, qn36, qn38, qn40, qn41, qn42, qn43, qn45, qn47, qn48, qn49, qn50, qn51, qn52, qn53, qn57, qn58, qn59, qn60, qn61, qn62, qn63, qn91, qn93, qn97, qn99, qn100, qn103, qn104, qn112, qn113, qn115, qn116, qn118, qn119, qn121, qn124, qn173, qn177, qn240, qn255, qn295, qn352, qn353, qn533, qn999, qn1000, qn1023, qn6561, qn10000, qn20787, qn1000000, qn252645135, qn858993459, qn1000000000, qn1431655765, qj0, qj1, qj2, qj4, qj7, qj8, qj9, qj10, qj30, qj100, qj1000, qj1000000, qj1000000000, qj1442695040888963407, qj6364136223846793005, q_s1, q_s2, q_s3, q_s4, q_s5, iI_add, iI_sub, iI_mul, iI_neg, q_lt, q_le, q_eq, jI_add, jI_sub, jI_mul, jI_neg, jI_of, jI_to, j_le0, j_ge0, j_lt0, j_gt0, j_eq0, q_dvl, qz0, qz1, qz2, qz3, if_pos, if_neg, reduceIte, c_isP w C hp, e1]
    · unfold f_X12_person
      simp (disch := omega) only [qn0, qn1, qn2, qn3, qn4, qn5, qn6, qn7, qn8, qn9, qn10, qn11, qn12, qn13, qn14, qn15, qn16, qn17, qn18, qn24, qn30, qn31, qn32, qn33, qn36, qn38, qn40, qn41, qn42, qn43, qn45, qn47, qn48, qn49, qn50, qn51, qn52, qn53, qn57, qn58, qn59, qn60, qn61, qn62, qn63, qn91, qn93, qn97, qn99, qn100, qn103, qn104, qn112, qn113, qn115, qn116, qn118, qn119, qn121, qn124, qn173, qn177, qn240, qn255, qn295, qn352, qn353, qn533, qn999, qn1000, qn1023, qn6561, qn10000, qn20787, qn1000000, qn252645135, qn858993459, qn1000000000, qn1431655765, qj0, qj1, qj2, qj4, qj7, qj8, qj9, qj10, qj30, qj100, qj1000, qj1000000, qj1000000000, qj1442695040888963407, qj6364136223846793005, q_s1, q_s2, q_s3, q_s4, q_s5, iI_add, iI_sub, iI_mul, iI_neg, q_lt, q_le, q_eq, jI_add, jI_sub, jI_mul, jI_neg, jI_of, jI_to, j_le0, j_ge0, j_lt0, j_gt0, j_eq0, q_dvl, qz0, qz1, qz2, qz3, if_pos, if_neg, reduceIte, m_isP w D hp, m_isIn, t0, e2]
  · subst d
    have e1 := c_of3 C.st p8
    have e2 := m_of3 D1.st p8
    refine ⟨iI 0, iI (s (6 * p + 3)), iI (s (6 * p + 3)), gs_up M 147 0 (iI 0), ?_, Or.inl rfl, ?_, ht _, fun _ => rfl, hv _⟩
    · unfold f_X11_person
      simp (disch := omega) only [qn0, qn1, qn2, qn3, qn4, qn5, qn6, qn7, qn8, qn9, qn10, qn11, qn12, qn13, qn14, qn15, qn16, qn17, qn18, qn24, qn30, qn31, qn32, qn33, qn36, qn38, qn40, qn41, qn42, qn43, qn45, qn47, qn48, qn49, qn50, qn51, qn52, qn53, qn57, qn58, qn59, qn60, qn61, qn62, qn63, qn91, qn93, qn97, qn99, qn100, qn103, qn104, qn112, qn113, qn115, qn116, qn118, qn119, qn121, qn124, qn173, qn177, qn240, qn255, qn295, qn352, qn353, qn533, qn999, qn1000, qn1023, qn6561, qn10000, qn20787, qn1000000, qn252645135, qn858993459, qn1000000000, qn1431655765, qj0, qj1, qj2, qj4, qj7, qj8, qj9, qj10, qj30, qj100, qj1000, qj1000000, qj1000000000, qj1442695040888963407, qj6364136223846793005, q_s1, q_s2, q_s3, q_s4, q_s5, iI_add, iI_sub, iI_mul, iI_neg, q_lt, q_le, q_eq, jI_add, jI_sub, jI_mul, jI_neg, jI_of, jI_to, j_le0, j_ge0, j_lt0, j_gt0, j_eq0, q_dvl, qz0, qz1, qz2, qz3, if_pos, if_neg, reduceIte, c_isP w C hp, e1]
    · unfold f_X12_person
      simp (disch := omega) only [qn0, qn1, qn2, qn3, qn4, qn5, qn6, qn7, qn8, qn9, qn10, qn11, qn12, qn13, qn14, qn15, qn16, qn17, qn18, qn24, qn30, qn31, qn32, qn33, qn36, qn38, qn40, qn41, qn42, qn43, qn45, qn47, qn48, qn49, qn50, qn51, qn52, qn53, qn57, qn58, qn59, qn60, qn61, qn62, qn63, qn91, qn93, qn97, qn99, qn100, qn103, qn104, qn112, qn113, qn115, qn116, qn118, qn119, qn121, qn124, qn173, qn177, qn240, qn255, qn295, qn352, qn353, qn533, qn999, qn1000, qn1023, qn6561, qn10000, qn20787, qn1000000, qn252645135, qn858993459, qn1000000000, qn1431655765, qj0, qj1, qj2, qj4, qj7, qj8, qj9, qj10, qj30, qj100, qj1000, qj1000000, qj1000000000, qj1442695040888963407, qj6364136223846793005, q_s1, q_s2, q_s3, q_s4, q_s5, iI_add, iI_sub, iI_mul, iI_neg, q_lt, q_le, q_eq, jI_add, jI_sub, jI_mul, jI_neg, jI_of, jI_to, j_le0, j_ge0, j_lt0, j_gt0, j_eq0, q_dvl, qz0, qz1, qz2, qz3, if_pos, if_neg, reduceIte, m_isP w D hp, m_isIn, t0, Int.reduceSub, e2]
  · subst d
    have e1 := c_of4 C.st p8
    have e2 := m_of4 D1.st p8
    refine ⟨iI 0, iI (s (6 * p + 4)), iI (s (6 * p + 4)), gs_up M 147 0 (iI 0), ?_, Or.inl rfl, ?_, ht _, fun _ => rfl, hv _⟩
    · unfold f_X11_person
      simp (disch := omega) only [qn0, qn1, qn2, qn3, qn4, qn5, qn6, qn7, qn8, qn9, qn10, qn11, qn12, qn13, qn14, qn15, qn16, qn17, qn18, qn24, qn30, qn31, qn32, qn33, qn36, qn38, qn40, qn41, qn42, qn43, qn45, qn47, qn48, qn49, qn50, qn51, qn52, qn53, qn57, qn58, qn59, qn60, qn61, qn62, qn63, qn91, qn93, qn97, qn99, qn100, qn103, qn104, qn112, qn113, qn115, qn116, qn118, qn119, qn121, qn124, qn173, qn177, qn240, qn255, qn295, qn352, qn353, qn533, qn999, qn1000, qn1023, qn6561, qn10000, qn20787, qn1000000, qn252645135, qn858993459, qn1000000000, qn1431655765, qj0, qj1, qj2, qj4, qj7, qj8, qj9, qj10, qj30, qj100, qj1000, qj1000000, qj1000000000, qj1442695040888963407, qj6364136223846793005, q_s1, q_s2, q_s3, q_s4, q_s5, iI_add, iI_sub, iI_mul, iI_neg, q_lt, q_le, q_eq, jI_add, jI_sub, jI_mul, jI_neg, jI_of, jI_to, j_le0, j_ge0, j_lt0, j_gt0, j_eq0, q_dvl, qz0, qz1, qz2, qz3, if_pos, if_neg, reduceIte, c_isP w C hp, e1]
    · unfold f_X12_person
      simp (disch := omega) only [qn0, qn1, qn2, qn3, qn4, qn5, qn6, qn7, qn8, qn9, qn10, qn11, qn12, qn13, qn14, qn15, qn16, qn17, qn18, qn24, qn30, qn31, qn32, qn33, qn36, qn38, qn40, qn41, qn42, qn43, qn45, qn47, qn48, qn49, qn50, qn51, qn52, qn53, qn57, qn58, qn59, qn60, qn61, qn62, qn63, qn91, qn93, qn97, qn99, qn100, qn103, qn104, qn112, qn113, qn115, qn116, qn118, qn119, qn121, qn124, qn173, qn177, qn240, qn255, qn295, qn352, qn353, qn533, qn999, qn1000, qn1023, qn6561, qn10000, qn20787, qn1000000, qn252645135, qn858993459, qn1000000000, qn1431655765, qj0, qj1, qj2, qj4, qj7, qj8, qj9, qj10, qj30, qj100, qj1000, qj1000000, qj1000000000, qj1442695040888963407, qj6364136223846793005, q_s1, q_s2, q_s3, q_s4, q_s5, iI_add, iI_sub, iI_mul, iI_neg, q_lt, q_le, q_eq, jI_add, jI_sub, jI_mul, jI_neg, jI_of, jI_to, j_le0, j_ge0, j_lt0, j_gt0, j_eq0, q_dvl, qz0, qz1, qz2, qz3, if_pos, if_neg, reduceIte, m_isP w D hp, m_isIn, t0, Int.reduceSub, e2]
  · subst d
    have e1 := c_of5 C.st p8
    have e2 := m_of5 D1.st p8
    refine ⟨iI 0, iI (s (6 * p + 5)), iI (s (6 * p + 5)), gs_up M 147 0 (iI 0), ?_, Or.inl rfl, ?_, ht _, fun _ => rfl, hv _⟩
    · unfold f_X11_person
      simp (disch := omega) only [qn0, qn1, qn2, qn3, qn4, qn5, qn6, qn7, qn8, qn9, qn10, qn11, qn12, qn13, qn14, qn15, qn16, qn17, qn18, qn24, qn30, qn31, qn32, qn33, qn36, qn38, qn40, qn41, qn42, qn43, qn45, qn47, qn48, qn49, qn50, qn51, qn52, qn53, qn57, qn58, qn59, qn60, qn61, qn62, qn63, qn91, qn93, qn97, qn99, qn100, qn103, qn104, qn112, qn113, qn115, qn116, qn118, qn119, qn121, qn124, qn173, qn177, qn240, qn255, qn295, qn352, qn353, qn533, qn999, qn1000, qn1023, qn6561, qn10000, qn20787, qn1000000, qn252645135, qn858993459, qn1000000000, qn1431655765, qj0, qj1, qj2, qj4, qj7, qj8, qj9, qj10, qj30, qj100, qj1000, qj1000000, qj1000000000, qj1442695040888963407, qj6364136223846793005, q_s1, q_s2, q_s3, q_s4, q_s5, iI_add, iI_sub, iI_mul, iI_neg, q_lt, q_le, q_eq, jI_add, jI_sub, jI_mul, jI_neg, jI_of, jI_to, j_le0, j_ge0, j_lt0, j_gt0, j_eq0, q_dvl, qz0, qz1, qz2, qz3, if_pos, if_neg, reduceIte, c_isP w C hp, e1]
    · unfold f_X12_person
      simp (disch := omega) only [qn0, qn1, qn2, qn3, qn4, qn5, qn6, qn7, qn8, qn9, qn10, qn11, qn12, qn13, qn14, qn15, qn16, qn17, qn18, qn24, qn30, qn31, qn32, qn33, qn36, qn38, qn40, qn41, qn42, qn43, qn45, qn47, qn48, qn49, qn50, qn51, qn52, qn53, qn57, qn58, qn59, qn60, qn61, qn62, qn63, qn91, qn93, qn97, qn99, qn100, qn103, qn104, qn112, qn113, qn115, qn116, qn118, qn119, qn121, qn124, qn173, qn177, qn240, qn255, qn295, qn352, qn353, qn533, qn999, qn1000, qn1023, qn6561, qn10000, qn20787, qn1000000, qn252645135, qn858993459, qn1000000000, qn1431655765, qj0, qj1, qj2, qj4, qj7, qj8, qj9, qj10, qj30, qj100, qj1000, qj1000000, qj1000000000, qj1442695040888963407, qj6364136223846793005, q_s1, q_s2, q_s3, q_s4, q_s5, iI_add, iI_sub, iI_mul, iI_neg, q_lt, q_le, q_eq, jI_add, jI_sub, jI_mul, jI_neg, jI_of, jI_to, j_le0, j_ge0, j_lt0, j_gt0, j_eq0, q_dvl, qz0, qz1, qz2, qz3, if_pos, if_neg, reduceIte, m_isP w D hp, m_isIn, t0, Int.reduceSub, e2]
theorem s_booked : gl_S_booked ma_Inv := by
  intro M L hI x1 x2
  have hI0 := hI
  obtain ⟨s, T, V, W, C, D⟩ := hI
  have w := W.2.1
  obtain ⟨f1, f2, f3, f4, f5, f6, f7, f8, f9, f10, f11, f12, f13, f14, -⟩ := W.2.1
  have D1 := ma_D0 D w (iI 0)
  rcases ma_isP W x1 with ⟨n1, n2⟩ | ⟨p, hp, p8, rfl⟩
  · refine ⟨iI (-1), M, gs_up M 147 0 (iI 0), ?_, ?_, hI0.ag (ma_g0 iv_ag.rf _)⟩
    · unfold f_X11_booked
      simp (disch := omega) only [qn0, qn1, qn2, qn3, qn4, qn5, qn6, qn7, qn8, qn9, qn10, qn11, qn12, qn13, qn14, qn15, qn16, qn17, qn18, qn24, qn30, qn31, qn32, qn33, qn36, qn38, qn40, qn41, qn42, qn43, qn45, qn47, qn48, qn49, qn50, qn51, qn52, qn53, qn57, qn58, qn59, qn60, qn61, qn62, qn63, qn91, qn93, qn97, qn99, qn100, qn103, qn104, qn112, qn113, qn115, qn116, qn118, qn119, qn121, qn124, qn173, qn177, qn240, qn255, qn295, qn352, qn353, qn533, qn999, qn1000, qn1023, qn6561, qn10000, qn20787, qn1000000, qn252645135, qn858993459, qn1000000000, qn1431655765, qj0, qj1, qj2, qj4, qj7, qj8, qj9, qj10, qj30, qj100, qj1000, qj1000000, qj1000000000, qj1442695040888963407, qj6364136223846793005, q_s1, q_s2, q_s3, q_s4, q_s5, iI_add, iI_sub, iI_mul, iI_neg, q_lt, q_le, q_eq, jI_add, jI_sub, jI_mul, jI_neg, jI_of, jI_to, j_le0, j_ge0, j_lt0, j_gt0, j_eq0, q_dvl, qz0, qz1, qz2, qz3, if_pos, if_neg, reduceIte, n1 M C]
    · unfold f_X12_booked
      simp (disch := omega) only [qn0, qn1, qn2, qn3, qn4, qn5, qn6, qn7, qn8, qn9, qn10, qn11, qn12, qn13, qn14, qn15, qn16, qn17, qn18, qn24, qn30, qn31, qn32, qn33, qn36, qn38, qn40, qn41, qn42, qn43, qn45, qn47, qn48, qn49, qn50, qn51, qn52, qn53, qn57, qn58, qn59, qn60, qn61, qn62, qn63, qn91, qn93, qn97, qn99, qn100, qn103, qn104, qn112, qn113, qn115, qn116, qn118, qn119, qn121, qn124, qn173, qn177, qn240, qn255, qn295, qn352, qn353, qn533, qn999, qn1000, qn1023, qn6561, qn10000, qn20787, qn1000000, qn252645135, qn858993459, qn1000000000, qn1431655765, qj0, qj1, qj2, qj4, qj7, qj8, qj9, qj10, qj30, qj100, qj1000, qj1000000, qj1000000000, qj1442695040888963407, qj6364136223846793005, q_s1, q_s2, q_s3, q_s4, q_s5, iI_add, iI_sub, iI_mul, iI_neg, q_lt, q_le, q_eq, jI_add, jI_sub, jI_mul, jI_neg, jI_of, jI_to, j_le0, j_ge0, j_lt0, j_gt0, j_eq0, q_dvl, qz0, qz1, qz2, qz3, if_pos, if_neg, reduceIte, n2 _ D1]
  obtain ⟨z, z1, z2, rfl⟩ := q_any x2
  rcases (by omega : z < 0 ∨ 1 < z ∨ z = 0 ∨ z = 1) with d | d | d | d
  · refine ⟨iI (-1), M, gs_up M 147 0 (iI 0), ?_, ?_, hI0.ag (ma_g0 iv_ag.rf _)⟩
    · unfold f_X11_booked
      simp (disch := omega) only [qn0, qn1, qn2, qn3, qn4, qn5, qn6, qn7, qn8, qn9, qn10, qn11, qn12, qn13, qn14, qn15, qn16, qn17, qn18, qn24, qn30, qn31, qn32, qn33, qn36, qn38, qn40, qn41, qn42, qn43, qn45, qn47, qn48, qn49, qn50, qn51, qn52, qn53, qn57, qn58, qn59, qn60, qn61, qn62, qn63, qn91, qn93, qn97, qn99, qn100, qn103, qn104, qn112, qn113, qn115, qn116, qn118, qn119, qn121, qn124, qn173, qn177, qn240, qn255, qn295, qn352, qn353, qn533, qn999, qn1000, qn1023, qn6561, qn10000, qn20787, qn1000000, qn252645135, qn858993459, qn1000000000, qn1431655765, qj0, qj1, qj2, qj4, qj7, qj8, qj9, qj10, qj30, qj100, qj1000, qj1000000, qj1000000000, qj1442695040888963407, qj6364136223846793005, q_s1, q_s2, q_s3, q_s4, q_s5, iI_add, iI_sub, iI_mul, iI_neg, q_lt, q_le, q_eq, jI_add, jI_sub, jI_mul, jI_neg, jI_of, jI_to, j_le0, j_ge0, j_lt0, j_gt0, j_eq0, q_dvl, qz0, qz1, qz2, qz3, if_pos, if_neg, reduceIte, c_isP w C hp]
    · unfold f_X12_booked
      simp (disch := omega) only [qn0, qn1, qn2, qn3, qn4, qn5, qn6, qn7, qn8, qn9, qn10, qn11, qn12, qn13, qn14, qn15, qn16, qn17, qn18, qn24, qn30, qn31, qn32, qn33, qn36, qn38, qn40, qn41, qn42, qn43, qn45, qn47, qn48, qn49, qn50, qn51, qn52, qn53, qn57, qn58, qn59, qn60, qn61, qn62, qn63, qn91, qn93, qn97, qn99, qn100, qn103, qn104, qn112, qn113, qn115, qn116, qn118, qn119, qn121, qn124, qn173, qn177, qn240, qn255, qn295, qn352, qn353, qn533, qn999, qn1000, qn1023, qn6561, qn10000, qn20787, qn1000000, qn252645135, qn858993459, qn1000000000, qn1431655765, qj0, qj1, qj2, qj4, qj7, qj8, qj9, qj10, qj30, qj100, qj1000, qj1000000, qj1000000000, qj1442695040888963407, qj6364136223846793005, q_s1, q_s2, q_s3, q_s4, q_s5, iI_add, iI_sub, iI_mul, iI_neg, q_lt, q_le, q_eq, jI_add, jI_sub, jI_mul, jI_neg, jI_of, jI_to, j_le0, j_ge0, j_lt0, j_gt0, j_eq0, q_dvl, qz0, qz1, qz2, qz3, if_pos, if_neg, reduceIte, m_isP w D1 hp, m_isOut]
  · refine ⟨iI (-1), M, gs_up M 147 0 (iI 0), ?_, ?_, hI0.ag (ma_g0 iv_ag.rf _)⟩
    · unfold f_X11_booked
      simp (disch := omega) only [qn0, qn1, qn2, qn3, qn4, qn5, qn6, qn7, qn8, qn9, qn10, qn11, qn12, qn13, qn14, qn15, qn16, qn17, qn18, qn24, qn30, qn31, qn32, qn33, qn36, qn38, qn40, qn41, qn42, qn43, qn45, qn47, qn48, qn49, qn50, qn51, qn52, qn53, qn57, qn58, qn59, qn60, qn61, qn62, qn63, qn91, qn93, qn97, qn99, qn100, qn103, qn104, qn112, qn113, qn115, qn116, qn118, qn119, qn121, qn124, qn173, qn177, qn240, qn255, qn295, qn352, qn353, qn533, qn999, qn1000, qn1023, qn6561, qn10000, qn20787, qn1000000, qn252645135, qn858993459, qn1000000000, qn1431655765, qj0, qj1, qj2, qj4, qj7, qj8, qj9, qj10, qj30, qj100, qj1000, qj1000000, qj1000000000, qj1442695040888963407, qj6364136223846793005, q_s1, q_s2, q_s3, q_s4, q_s5, iI_add, iI_sub, iI_mul, iI_neg, q_lt, q_le, q_eq, jI_add, jI_sub, jI_mul, jI_neg, jI_of, jI_to, j_le0, j_ge0, j_lt0, j_gt0, j_eq0, q_dvl, qz0, qz1, qz2, qz3, if_pos, if_neg, reduceIte, c_isP w C hp]
    · unfold f_X12_booked
      simp (disch := omega) only [qn0, qn1, qn2, qn3, qn4, qn5, qn6, qn7, qn8, qn9, qn10, qn11, qn12, qn13, qn14, qn15, qn16, qn17, qn18, qn24, qn30, qn31, qn32, qn33, qn36, qn38, qn40, qn41, qn42, qn43, qn45, qn47, qn48, qn49, qn50, qn51, qn52, qn53, qn57, qn58, qn59, qn60, qn61, qn62, qn63, qn91, qn93, qn97, qn99, qn100, qn103, qn104, qn112, qn113, qn115, qn116, qn118, qn119, qn121, qn124, qn173, qn177, qn240, qn255, qn295, qn352, qn353, qn533, qn999, qn1000, qn1023, qn6561, qn10000, qn20787, qn1000000, qn252645135, qn858993459, qn1000000000, qn1431655765, qj0, qj1, qj2, qj4, qj7, qj8, qj9, qj10, qj30, qj100, qj1000, qj1000000, qj1000000000, qj1442695040888963407, qj6364136223846793005, q_s1, q_s2, q_s3, q_s4, q_s5, iI_add, iI_sub, iI_mul, iI_neg, q_lt, q_le, q_eq, jI_add, jI_sub, jI_mul, jI_neg, jI_of, jI_to, j_le0, j_ge0, j_lt0, j_gt0, j_eq0, q_dvl, qz0, qz1, qz2, qz3, if_pos, if_neg, reduceIte, m_isP w D1 hp, m_isOut]
  · refine ⟨iI (ma_nb s p), M, gs_up M 147 0 (iI 0), ?_, ?_, hI0.ag (ma_g0 iv_ag.rf _)⟩
    · unfold f_X11_booked
      simp (disch := omega) only [qn0, qn1, qn2, qn3, qn4, qn5, qn6, qn7, qn8, qn9, qn10, qn11, qn12, qn13, qn14, qn15, qn16, qn17, qn18, qn24, qn30, qn31, qn32, qn33, qn36, qn38, qn40, qn41, qn42, qn43, qn45, qn47, qn48, qn49, qn50, qn51, qn52, qn53, qn57, qn58, qn59, qn60, qn61, qn62, qn63, qn91, qn93, qn97, qn99, qn100, qn103, qn104, qn112, qn113, qn115, qn116, qn118, qn119, qn121, qn124, qn173, qn177, qn240, qn255, qn295, qn352, qn353, qn533, qn999, qn1000, qn1023, qn6561, qn10000, qn20787, qn1000000, qn252645135, qn858993459, qn1000000000, qn1431655765, qj0, qj1, qj2, qj4, qj7, qj8, qj9, qj10, qj30, qj100, qj1000, qj1000000, qj1000000000, qj1442695040888963407, qj6364136223846793005, q_s1, q_s2, q_s3, q_s4, q_s5, iI_add, iI_sub, iI_mul, iI_neg, q_lt, q_le, q_eq, jI_add, jI_sub, jI_mul, jI_neg, jI_of, jI_to, j_le0, j_ge0, j_lt0, j_gt0, j_eq0, q_dvl, qz0, qz1, qz2, qz3, if_pos, if_neg, reduceIte, c_isP w C hp, c_nb W.1 C.st p8]
    · unfold f_X12_booked
      simp (disch := omega) only [qn0, qn1, qn2, qn3, qn4, qn5, qn6, qn7, qn8, qn9, qn10, qn11, qn12, qn13, qn14, qn15, qn16, qn17, qn18, qn24, qn30, qn31, qn32, qn33, qn36, qn38, qn40, qn41, qn42, qn43, qn45, qn47, qn48, qn49, qn50, qn51, qn52, qn53, qn57, qn58, qn59, qn60, qn61, qn62, qn63, qn91, qn93, qn97, qn99, qn100, qn103, qn104, qn112, qn113, qn115, qn116, qn118, qn119, qn121, qn124, qn173, qn177, qn240, qn255, qn295, qn352, qn353, qn533, qn999, qn1000, qn1023, qn6561, qn10000, qn20787, qn1000000, qn252645135, qn858993459, qn1000000000, qn1431655765, qj0, qj1, qj2, qj4, qj7, qj8, qj9, qj10, qj30, qj100, qj1000, qj1000000, qj1000000000, qj1442695040888963407, qj6364136223846793005, q_s1, q_s2, q_s3, q_s4, q_s5, iI_add, iI_sub, iI_mul, iI_neg, q_lt, q_le, q_eq, jI_add, jI_sub, jI_mul, jI_neg, jI_of, jI_to, j_le0, j_ge0, j_lt0, j_gt0, j_eq0, q_dvl, qz0, qz1, qz2, qz3, if_pos, if_neg, reduceIte, m_isP w D1 hp, m_isIn, m_nb W.1 D1.st p8]
  · subst d
    have o := W.1.1 p p8
    unfold ma_one at o
    have hc := ma_cs_b W.1 T V (T 3 2) p
    have hq := ma_pt_b s T V (T 3 2) p 0 0 (s (6 * p + 2))
    obtain ⟨M1, e1, g1⟩ := c_case W C hp f7
    have C1 := C.ag w g1
    obtain ⟨M2, e2, g2⟩ := c_pt W C1 hp f7 (h := 0) (a := 0) (t := s (6 * p + 2)) (by omega) (by omega) (by omega)
    have e3 := c_lk (C1.ag w g2) w (iI p) hc hq
    have D2 := ma_D0 (D.ag w (g1.tr g2)) w (iI 0)
    obtain ⟨M3, e4, g3⟩ := m_case W D2 hp f7
    have D3 := D2.ag w g3
    obtain ⟨M4, e5, g4⟩ := m_pt W D3 hp f7 (h := 0) (a := 0) (t := s (6 * p + 2)) (by omega) (by omega) (by omega)
    have e6 := m_lk (D3.ag w g4) w (iI p) (iI 1) hc hq
    refine ⟨iI (ma_lk (ma_cs s T V (T 3 2) p) (ma_pt s T V (T 3 2) p 0 0 (s (6 * p + 2))) (T 1 1) 100 0), M2, M4, ?_, ?_, hI0.ag ((ma_g0 (g1.tr g2) _).tr (g3.tr g4))⟩
    · unfold f_X11_booked f_X11_lacking f_X4_pointsNow f_X4_holding
      simp (disch := omega) only [qn0, qn1, qn2, qn3, qn4, qn5, qn6, qn7, qn8, qn9, qn10, qn11, qn12, qn13, qn14, qn15, qn16, qn17, qn18, qn24, qn30, qn31, qn32, qn33, qn36, qn38, qn40, qn41, qn42, qn43, qn45, qn47, qn48, qn49, qn50, qn51, qn52, qn53, qn57, qn58, qn59, qn60, qn61, qn62, qn63, qn91, qn93, qn97, qn99, qn100, qn103, qn104, qn112, qn113, qn115, qn116, qn118, qn119, qn121, qn124, qn173, qn177, qn240, qn255, qn295, qn352, qn353, qn533, qn999, qn1000, qn1023, qn6561, qn10000, qn20787, qn1000000, qn252645135, qn858993459, qn1000000000, qn1431655765, qj0, qj1, qj2, qj4, qj7, qj8, qj9, qj10, qj30, qj100, qj1000, qj1000000, qj1000000000, qj1442695040888963407, qj6364136223846793005, q_s1, q_s2, q_s3, q_s4, q_s5, iI_add, iI_sub, iI_mul, iI_neg, q_lt, q_le, q_eq, jI_add, jI_sub, jI_mul, jI_neg, jI_of, jI_to, j_le0, j_ge0, j_lt0, j_gt0, j_eq0, q_dvl, qz0, qz1, qz2, qz3, if_pos, if_neg, reduceIte, c_isP w C hp, C.la, e1, c_of2 C1.st p8, C1.la, e2, e3]
    · unfold f_X12_booked f_X12_caseOf
      simp (disch := omega) only [qn0, qn1, qn2, qn3, qn4, qn5, qn6, qn7, qn8, qn9, qn10, qn11, qn12, qn13, qn14, qn15, qn16, qn17, qn18, qn24, qn30, qn31, qn32, qn33, qn36, qn38, qn40, qn41, qn42, qn43, qn45, qn47, qn48, qn49, qn50, qn51, qn52, qn53, qn57, qn58, qn59, qn60, qn61, qn62, qn63, qn91, qn93, qn97, qn99, qn100, qn103, qn104, qn112, qn113, qn115, qn116, qn118, qn119, qn121, qn124, qn173, qn177, qn240, qn255, qn295, qn352, qn353, qn533, qn999, qn1000, qn1023, qn6561, qn10000, qn20787, qn1000000, qn252645135, qn858993459, qn1000000000, qn1431655765, qj0, qj1, qj2, qj4, qj7, qj8, qj9, qj10, qj30, qj100, qj1000, qj1000000, qj1000000000, qj1442695040888963407, qj6364136223846793005, q_s1, q_s2, q_s3, q_s4, q_s5, iI_add, iI_sub, iI_mul, iI_neg, q_lt, q_le, q_eq, jI_add, jI_sub, jI_mul, jI_neg, jI_of, jI_to, j_le0, j_ge0, j_lt0, j_gt0, j_eq0, q_dvl, qz0, qz1, qz2, qz3, if_pos, if_neg, reduceIte, m_isP w D2 hp, m_isIn, D2.la, e4, m_of2 D3.st p8, D3.la, e5, e6]
theorem s_most : gl_S_most ma_Inv := by
  intro M L hI x1
  have hI0 := hI
  obtain ⟨s, T, V, W, C, D⟩ := hI
  have w := W.2.1
  obtain ⟨f1, f2, f3, f4, f5, f6, f7, f8, f9, f10, f11, f12, f13, f14, -⟩ := W.2.1
  have D1 := ma_D0 D w (iI 0)
  obtain ⟨z, z1, z2, rfl⟩ := q_any x1
  rcases (by omega : T 3 0 = 0 ∨ 0 < T 3 0) with c | c
  · refine ⟨iI (-1), M, gs_up M 147 0 (iI 0), ?_, ?_, hI0.ag (ma_g0 iv_ag.rf _)⟩
    · unfold f_X11_most
      simp (disch := omega) only [qn0, qn1, qn2, qn3, qn4, qn5, qn6, qn7, qn8, qn9, qn10, qn11, qn12, qn13, qn14, qn15, qn16, qn17, qn18, qn24, qn30, qn31, qn32, qn33, qn36, qn38, qn40, qn41, qn42, qn43, qn45, qn47, qn48, qn49, qn50, qn51, qn52, qn53, qn57, qn58, qn59, qn60, qn61, qn62, qn63, qn91, qn93, qn97, qn99, qn100, qn103, qn104, qn112, qn113, qn115, qn116, qn118, qn119, qn121, qn124, qn173, qn177, qn240, qn255, qn295, qn352, qn353, qn533, qn999, qn1000, qn1023, qn6561, qn10000, qn20787, qn1000000, qn252645135, qn858993459, qn1000000000, qn1431655765, qj0, qj1, qj2, qj4, qj7, qj8, qj9, qj10, qj30, qj100, qj1000, qj1000000, qj1000000000, qj1442695040888963407, qj6364136223846793005, q_s1, q_s2, q_s3, q_s4, q_s5, iI_add, iI_sub, iI_mul, iI_neg, q_lt, q_le, q_eq, jI_add, jI_sub, jI_mul, jI_neg, jI_of, jI_to, j_le0, j_ge0, j_lt0, j_gt0, j_eq0, q_dvl, qz0, qz1, qz2, qz3, if_pos, if_neg, reduceIte, c_town0 C c]
    · unfold f_X12_most
      simp (disch := omega) only [qn0, qn1, qn2, qn3, qn4, qn5, qn6, qn7, qn8, qn9, qn10, qn11, qn12, qn13, qn14, qn15, qn16, qn17, qn18, qn24, qn30, qn31, qn32, qn33, qn36, qn38, qn40, qn41, qn42, qn43, qn45, qn47, qn48, qn49, qn50, qn51, qn52, qn53, qn57, qn58, qn59, qn60, qn61, qn62, qn63, qn91, qn93, qn97, qn99, qn100, qn103, qn104, qn112, qn113, qn115, qn116, qn118, qn119, qn121, qn124, qn173, qn177, qn240, qn255, qn295, qn352, qn353, qn533, qn999, qn1000, qn1023, qn6561, qn10000, qn20787, qn1000000, qn252645135, qn858993459, qn1000000000, qn1431655765, qj0, qj1, qj2, qj4, qj7, qj8, qj9, qj10, qj30, qj100, qj1000, qj1000000, qj1000000000, qj1442695040888963407, qj6364136223846793005, q_s1, q_s2, q_s3, q_s4, q_s5, iI_add, iI_sub, iI_mul, iI_neg, q_lt, q_le, q_eq, jI_add, jI_sub, jI_mul, jI_neg, jI_of, jI_to, j_le0, j_ge0, j_lt0, j_gt0, j_eq0, q_dvl, qz0, qz1, qz2, qz3, if_pos, if_neg, reduceIte, D1.fo]
  rcases (by omega : z < 0 ∨ 1 < z ∨ z = 0 ∨ z = 1) with d | d | d | d
  · refine ⟨iI (-1), M, gs_up M 147 0 (iI 0), ?_, ?_, hI0.ag (ma_g0 iv_ag.rf _)⟩
    · unfold f_X11_most
      simp (disch := omega) only [qn0, qn1, qn2, qn3, qn4, qn5, qn6, qn7, qn8, qn9, qn10, qn11, qn12, qn13, qn14, qn15, qn16, qn17, qn18, qn24, qn30, qn31, qn32, qn33, qn36, qn38, qn40, qn41, qn42, qn43, qn45, qn47, qn48, qn49, qn50, qn51, qn52, qn53, qn57, qn58, qn59, qn60, qn61, qn62, qn63, qn91, qn93, qn97, qn99, qn100, qn103, qn104, qn112, qn113, qn115, qn116, qn118, qn119, qn121, qn124, qn173, qn177, qn240, qn255, qn295, qn352, qn353, qn533, qn999, qn1000, qn1023, qn6561, qn10000, qn20787, qn1000000, qn252645135, qn858993459, qn1000000000, qn1431655765, qj0, qj1, qj2, qj4, qj7, qj8, qj9, qj10, qj30, qj100, qj1000, qj1000000, qj1000000000, qj1442695040888963407, qj6364136223846793005, q_s1, q_s2, q_s3, q_s4, q_s5, iI_add, iI_sub, iI_mul, iI_neg, q_lt, q_le, q_eq, jI_add, jI_sub, jI_mul, jI_neg, jI_of, jI_to, j_le0, j_ge0, j_lt0, j_gt0, j_eq0, q_dvl, qz0, qz1, qz2, qz3, if_pos, if_neg, reduceIte, c_town1 w C c]
    · unfold f_X12_most
      simp (disch := omega) only [qn0, qn1, qn2, qn3, qn4, qn5, qn6, qn7, qn8, qn9, qn10, qn11, qn12, qn13, qn14, qn15, qn16, qn17, qn18, qn24, qn30, qn31, qn32, qn33, qn36, qn38, qn40, qn41, qn42, qn43, qn45, qn47, qn48, qn49, qn50, qn51, qn52, qn53, qn57, qn58, qn59, qn60, qn61, qn62, qn63, qn91, qn93, qn97, qn99, qn100, qn103, qn104, qn112, qn113, qn115, qn116, qn118, qn119, qn121, qn124, qn173, qn177, qn240, qn255, qn295, qn352, qn353, qn533, qn999, qn1000, qn1023, qn6561, qn10000, qn20787, qn1000000, qn252645135, qn858993459, qn1000000000, qn1431655765, qj0, qj1, qj2, qj4, qj7, qj8, qj9, qj10, qj30, qj100, qj1000, qj1000000, qj1000000000, qj1442695040888963407, qj6364136223846793005, q_s1, q_s2, q_s3, q_s4, q_s5, iI_add, iI_sub, iI_mul, iI_neg, q_lt, q_le, q_eq, jI_add, jI_sub, jI_mul, jI_neg, jI_of, jI_to, j_le0, j_ge0, j_lt0, j_gt0, j_eq0, q_dvl, qz0, qz1, qz2, qz3, if_pos, if_neg, reduceIte, D1.fo, m_isOut]
  · refine ⟨iI (-1), M, gs_up M 147 0 (iI 0), ?_, ?_, hI0.ag (ma_g0 iv_ag.rf _)⟩
    · unfold f_X11_most
      simp (disch := omega) only [qn0, qn1, qn2, qn3, qn4, qn5, qn6, qn7, qn8, qn9, qn10, qn11, qn12, qn13, qn14, qn15, qn16, qn17, qn18, qn24, qn30, qn31, qn32, qn33, qn36, qn38, qn40, qn41, qn42, qn43, qn45, qn47, qn48, qn49, qn50, qn51, qn52, qn53, qn57, qn58, qn59, qn60, qn61, qn62, qn63, qn91, qn93, qn97, qn99, qn100, qn103, qn104, qn112, qn113, qn115, qn116, qn118, qn119, qn121, qn124, qn173, qn177, qn240, qn255, qn295, qn352, qn353, qn533, qn999, qn1000, qn1023, qn6561, qn10000, qn20787, qn1000000, qn252645135, qn858993459, qn1000000000, qn1431655765, qj0, qj1, qj2, qj4, qj7, qj8, qj9, qj10, qj30, qj100, qj1000, qj1000000, qj1000000000, qj1442695040888963407, qj6364136223846793005, q_s1, q_s2, q_s3, q_s4, q_s5, iI_add, iI_sub, iI_mul, iI_neg, q_lt, q_le, q_eq, jI_add, jI_sub, jI_mul, jI_neg, jI_of, jI_to, j_le0, j_ge0, j_lt0, j_gt0, j_eq0, q_dvl, qz0, qz1, qz2, qz3, if_pos, if_neg, reduceIte, c_town1 w C c]
    · unfold f_X12_most
      simp (disch := omega) only [qn0, qn1, qn2, qn3, qn4, qn5, qn6, qn7, qn8, qn9, qn10, qn11, qn12, qn13, qn14, qn15, qn16, qn17, qn18, qn24, qn30, qn31, qn32, qn33, qn36, qn38, qn40, qn41, qn42, qn43, qn45, qn47, qn48, qn49, qn50, qn51, qn52, qn53, qn57, qn58, qn59, qn60, qn61, qn62, qn63, qn91, qn93, qn97, qn99, qn100, qn103, qn104, qn112, qn113, qn115, qn116, qn118, qn119, qn121, qn124, qn173, qn177, qn240, qn255, qn295, qn352, qn353, qn533, qn999, qn1000, qn1023, qn6561, qn10000, qn20787, qn1000000, qn252645135, qn858993459, qn1000000000, qn1431655765, qj0, qj1, qj2, qj4, qj7, qj8, qj9, qj10, qj30, qj100, qj1000, qj1000000, qj1000000000, qj1442695040888963407, qj6364136223846793005, q_s1, q_s2, q_s3, q_s4, q_s5, iI_add, iI_sub, iI_mul, iI_neg, q_lt, q_le, q_eq, jI_add, jI_sub, jI_mul, jI_neg, jI_of, jI_to, j_le0, j_ge0, j_lt0, j_gt0, j_eq0, q_dvl, qz0, qz1, qz2, qz3, if_pos, if_neg, reduceIte, D1.fo, m_isOut]
  · subst d
    obtain ⟨M1, e1, g1⟩ := c_mo0_l W C
    have D2 := ma_D0 (D.ag w g1) w (iI 0)
    obtain ⟨M2, e2, g2⟩ := m_mo0_l W D2 c
    have z3 : iI (ma_am (ma_mo s T V 0) 0 : Nat) = iI 0 := rfl
    have z4 : iI (if 0 = 0 then -1 else ma_mo s T V 0 (ma_am (ma_mo s T V 0) 0)) = iI (-1) := rfl
    have z5 : iI (ma_am (ma_mo s T V 0) 1 : Nat) = iI 0 := by rw [ma_am_1]; rfl
    rw [z3, z4] at e1
    rw [z5] at e2
    refine ⟨iI (ma_am (ma_mo s T V 0) (T 3 0).toNat : Nat), M1, M2, ?_, ?_, hI0.ag ((ma_g0 g1 _).tr g2)⟩
    · unfold f_X11_most
      simp (disch := omega) only [qn0, qn1, qn2, qn3, qn4, qn5, qn6, qn7, qn8, qn9, qn10, qn11, qn12, qn13, qn14, qn15, qn16, qn17, qn18, qn24, qn30, qn31, qn32, qn33, qn36, qn38, qn40, qn41, qn42, qn43, qn45, qn47, qn48, qn49, qn50, qn51, qn52, qn53, qn57, qn58, qn59, qn60, qn61, qn62, qn63, qn91, qn93, qn97, qn99, qn100, qn103, qn104, qn112, qn113, qn115, qn116, qn118, qn119, qn121, qn124, qn173, qn177, qn240, qn255, qn295, qn352, qn353, qn533, qn999, qn1000, qn1023, qn6561, qn10000, qn20787, qn1000000, qn252645135, qn858993459, qn1000000000, qn1431655765, qj0, qj1, qj2, qj4, qj7, qj8, qj9, qj10, qj30, qj100, qj1000, qj1000000, qj1000000000, qj1442695040888963407, qj6364136223846793005, q_s1, q_s2, q_s3, q_s4, q_s5, iI_add, iI_sub, iI_mul, iI_neg, q_lt, q_le, q_eq, jI_add, jI_sub, jI_mul, jI_neg, jI_of, jI_to, j_le0, j_ge0, j_lt0, j_gt0, j_eq0, q_dvl, qz0, qz1, qz2, qz3, if_pos, if_neg, reduceIte, c_town1 w C c, e1]
    · unfold f_X12_most
      simp (disch := omega) only [qn0, qn1, qn2, qn3, qn4, qn5, qn6, qn7, qn8, qn9, qn10, qn11, qn12, qn13, qn14, qn15, qn16, qn17, qn18, qn24, qn30, qn31, qn32, qn33, qn36, qn38, qn40, qn41, qn42, qn43, qn45, qn47, qn48, qn49, qn50, qn51, qn52, qn53, qn57, qn58, qn59, qn60, qn61, qn62, qn63, qn91, qn93, qn97, qn99, qn100, qn103, qn104, qn112, qn113, qn115, qn116, qn118, qn119, qn121, qn124, qn173, qn177, qn240, qn255, qn295, qn352, qn353, qn533, qn999, qn1000, qn1023, qn6561, qn10000, qn20787, qn1000000, qn252645135, qn858993459, qn1000000000, qn1431655765, qj0, qj1, qj2, qj4, qj7, qj8, qj9, qj10, qj30, qj100, qj1000, qj1000000, qj1000000000, qj1442695040888963407, qj6364136223846793005, q_s1, q_s2, q_s3, q_s4, q_s5, iI_add, iI_sub, iI_mul, iI_neg, q_lt, q_le, q_eq, jI_add, jI_sub, jI_mul, jI_neg, jI_of, jI_to, j_le0, j_ge0, j_lt0, j_gt0, j_eq0, q_dvl, qz0, qz1, qz2, qz3, if_pos, if_neg, reduceIte, D2.fo, m_isIn, e2]
  · subst d
    obtain ⟨M1, e1, g1⟩ := c_mo1_l W C
    have D2 := ma_D0 (D.ag w g1) w (iI 0)
    obtain ⟨M2, e2, g2⟩ := m_mo1_l W D2 c
    have z3 : iI (ma_am (ma_mo s T V 1) 0 : Nat) = iI 0 := rfl
    have z4 : iI (if 0 = 0 then -1 else ma_mo s T V 1 (ma_am (ma_mo s T V 1) 0)) = iI (-1) := rfl
    have z5 : iI (ma_am (ma_mo s T V 1) 1 : Nat) = iI 0 := by rw [ma_am_1]; rfl
    rw [z3, z4] at e1
    rw [z5] at e2
    refine ⟨iI (ma_am (ma_mo s T V 1) (T 3 0).toNat : Nat), M1, M2, ?_, ?_, hI0.ag ((ma_g0 g1 _).tr g2)⟩
    · unfold f_X11_most
      simp (disch := omega) only [qn0, qn1, qn2, qn3, qn4, qn5, qn6, qn7, qn8, qn9, qn10, qn11, qn12, qn13, qn14, qn15, qn16, qn17, qn18, qn24, qn30, qn31, qn32, qn33, qn36, qn38, qn40, qn41, qn42, qn43, qn45, qn47, qn48, qn49, qn50, qn51, qn52, qn53, qn57, qn58, qn59, qn60, qn61, qn62, qn63, qn91, qn93, qn97, qn99, qn100, qn103, qn104, qn112, qn113, qn115, qn116, qn118, qn119, qn121, qn124, qn173, qn177, qn240, qn255, qn295, qn352, qn353, qn533, qn999, qn1000, qn1023, qn6561, qn10000, qn20787, qn1000000, qn252645135, qn858993459, qn1000000000, qn1431655765, qj0, qj1, qj2, qj4, qj7, qj8, qj9, qj10, qj30, qj100, qj1000, qj1000000, qj1000000000, qj1442695040888963407, qj6364136223846793005, q_s1, q_s2, q_s3, q_s4, q_s5, iI_add, iI_sub, iI_mul, iI_neg, q_lt, q_le, q_eq, jI_add, jI_sub, jI_mul, jI_neg, jI_of, jI_to, j_le0, j_ge0, j_lt0, j_gt0, j_eq0, q_dvl, qz0, qz1, qz2, qz3, if_pos, if_neg, reduceIte, c_town1 w C c, e1]
    · unfold f_X12_most
      simp (disch := omega) only [qn0, qn1, qn2, qn3, qn4, qn5, qn6, qn7, qn8, qn9, qn10, qn11, qn12, qn13, qn14, qn15, qn16, qn17, qn18, qn24, qn30, qn31, qn32, qn33, qn36, qn38, qn40, qn41, qn42, qn43, qn45, qn47, qn48, qn49, qn50, qn51, qn52, qn53, qn57, qn58, qn59, qn60, qn61, qn62, qn63, qn91, qn93, qn97, qn99, qn100, qn103, qn104, qn112, qn113, qn115, qn116, qn118, qn119, qn121, qn124, qn173, qn177, qn240, qn255, qn295, qn352, qn353, qn533, qn999, qn1000, qn1023, qn6561, qn10000, qn20787, qn1000000, qn252645135, qn858993459, qn1000000000, qn1431655765, qj0, qj1, qj2, qj4, qj7, qj8, qj9, qj10, qj30, qj100, qj1000, qj1000000, qj1000000000, qj1442695040888963407, qj6364136223846793005, q_s1, q_s2, q_s3, q_s4, q_s5, iI_add, iI_sub, iI_mul, iI_neg, q_lt, q_le, q_eq, jI_add, jI_sub, jI_mul, jI_neg, jI_of, jI_to, j_le0, j_ge0, j_lt0, j_gt0, j_eq0, q_dvl, qz0, qz1, qz2, qz3, if_pos, if_neg, reduceIte, D2.fo, m_isIn, e2]
theorem s_couple : gl_S_couple ma_Inv := by
  intro M L hI x1 x2 x3 x4
  have hI0 := hI
  obtain ⟨s, T, V, W, C, D⟩ := hI
  have w := W.2.1
  obtain ⟨f1, f2, f3, f4, f5, f6, f7, f8, f9, f10, f11, f12, f13, f14, -⟩ := W.2.1
  have D1 := ma_D0 D w (iI 0)
  rcases ma_isM W x1 with ⟨n1, n2⟩ | ⟨p, q, hp, hq, rfl, n1, n2⟩
  · refine ⟨iI (-1000000), M, gs_up M 147 0 (iI 0), ?_, ?_, hI0.ag (ma_g0 iv_ag.rf _)⟩
    · unfold f_X11_couple
      simp (disch := omega) only [qn0, qn1, qn2, qn3, qn4, qn5, qn6, qn7, qn8, qn9, qn10, qn11, qn12, qn13, qn14, qn15, qn16, qn17, qn18, qn24, qn30, qn31, qn32, qn33, qn36, qn38, qn40, qn41, qn42, qn43, qn45, qn47, qn48, qn49, qn50, qn51, qn52, qn53, qn57, qn58, qn59, qn60, qn61, qn62, qn63, qn91, qn93, qn97, qn99, qn100, qn103, qn104, qn112, qn113, qn115, qn116, qn118, qn119, qn121, qn124, qn173, qn177, qn240, qn255, qn295, qn352, qn353, qn533, qn999, qn1000, qn1023, qn6561, qn10000, qn20787, qn1000000, qn252645135, qn858993459, qn1000000000, qn1431655765, qj0, qj1, qj2, qj4, qj7, qj8, qj9, qj10, qj30, qj100, qj1000, qj1000000, qj1000000000, qj1442695040888963407, qj6364136223846793005, q_s1, q_s2, q_s3, q_s4, q_s5, iI_add, iI_sub, iI_mul, iI_neg, q_lt, q_le, q_eq, jI_add, jI_sub, jI_mul, jI_neg, jI_of, jI_to, j_le0, j_ge0, j_lt0, j_gt0, j_eq0, q_dvl, qz0, qz1, qz2, qz3, if_pos, if_neg, reduceIte, n1 M C]
    · unfold f_X12_couple
      simp (disch := omega) only [qn0, qn1, qn2, qn3, qn4, qn5, qn6, qn7, qn8, qn9, qn10, qn11, qn12, qn13, qn14, qn15, qn16, qn17, qn18, qn24, qn30, qn31, qn32, qn33, qn36, qn38, qn40, qn41, qn42, qn43, qn45, qn47, qn48, qn49, qn50, qn51, qn52, qn53, qn57, qn58, qn59, qn60, qn61, qn62, qn63, qn91, qn93, qn97, qn99, qn100, qn103, qn104, qn112, qn113, qn115, qn116, qn118, qn119, qn121, qn124, qn173, qn177, qn240, qn255, qn295, qn352, qn353, qn533, qn999, qn1000, qn1023, qn6561, qn10000, qn20787, qn1000000, qn252645135, qn858993459, qn1000000000, qn1431655765, qj0, qj1, qj2, qj4, qj7, qj8, qj9, qj10, qj30, qj100, qj1000, qj1000000, qj1000000000, qj1442695040888963407, qj6364136223846793005, q_s1, q_s2, q_s3, q_s4, q_s5, iI_add, iI_sub, iI_mul, iI_neg, q_lt, q_le, q_eq, jI_add, jI_sub, jI_mul, jI_neg, jI_of, jI_to, j_le0, j_ge0, j_lt0, j_gt0, j_eq0, q_dvl, qz0, qz1, qz2, qz3, if_pos, if_neg, reduceIte, n2 _ D1]
  have hbit : ∀ x : Int32, (f_X11_isBit x = some (iI 0) ∧ f_X12_isIn (Int32.toInt64 x) (0 : Int64) (1 : Int64) = some (iI 0)) ∨ ((∃ a : Int, (a = 0 ∨ a = 1) ∧ x = iI a) ∧ f_X11_isBit x = some (iI 1) ∧ f_X12_isIn (Int32.toInt64 x) (0 : Int64) (1 : Int64) = some (iI 1)) := by
    intro x
    obtain ⟨z, z1, z2, rfl⟩ := q_any x
    rcases (by omega : z < 0 ∨ 1 < z ∨ z = 0 ∨ z = 1) with d | d | d | d
    · left
      unfold f_X11_isBit
      simp (disch := omega) only [qn0, qn1, qn2, qn3, qn4, qn5, qn6, qn7, qn8, qn9, qn10, qn11, qn12, qn13, qn14, qn15, qn16, qn17, qn18, qn24, qn30, qn31, qn32, qn33, qn36, qn38, qn40, qn41, qn42, qn43, qn45, qn47, qn48, qn49, qn50, qn51, qn52, qn53, qn57, qn58, qn59, qn60, qn61, qn62, qn63, qn91, qn93, qn97, qn99, qn100, qn103, qn104, qn112, qn113, qn115, qn116, qn118, qn119, qn121, qn124, qn173, qn177, qn240, qn255, qn295, qn352, qn353, qn533, qn999, qn1000, qn1023, qn6561, qn10000, qn20787, qn1000000, qn252645135, qn858993459, qn1000000000, qn1431655765, qj0, qj1, qj2, qj4, qj7, qj8, qj9, qj10, qj30, qj100, qj1000, qj1000000, qj1000000000, qj1442695040888963407, qj6364136223846793005, q_s1, q_s2, q_s3, q_s4, q_s5, iI_add, iI_sub, iI_mul, iI_neg, q_lt, q_le, q_eq, jI_add, jI_sub, jI_mul, jI_neg, jI_of, jI_to, j_le0, j_ge0, j_lt0, j_gt0, j_eq0, q_dvl, qz0, qz1, qz2, qz3, if_pos, if_neg, reduceIte, m_isOut, and_self]
    · left
      unfold f_X11_isBit
      simp (disch := omega) only [qn0, qn1, qn2, qn3, qn4, qn5, qn6, qn7, qn8, qn9, qn10, qn11, qn12, qn13, qn14, qn15, qn16, qn17, qn18, qn24, qn30, qn31, qn32, qn33, qn36, qn38, qn40, qn41, qn42, qn43, qn45, qn47, qn48, qn49, qn50, qn51, qn52, qn53, qn57, qn58, qn59, qn60, qn61, qn62, qn63, qn91, qn93, qn97, qn99, qn100, qn103, qn104, qn112, qn113, qn115, qn116, qn118, qn119, qn121, qn124, qn173, qn177, qn240, qn255, qn295, qn352, qn353, qn533, qn999, qn1000, qn1023, qn6561, qn10000, qn20787, qn1000000, qn252645135, qn858993459, qn1000000000, qn1431655765, qj0, qj1, qj2, qj4, qj7, qj8, qj9, qj10, qj30, qj100, qj1000, qj1000000, qj1000000000, qj1442695040888963407, qj6364136223846793005, q_s1, q_s2, q_s3, q_s4, q_s5, iI_add, iI_sub, iI_mul, iI_neg, q_lt, q_le, q_eq, jI_add, jI_sub, jI_mul, jI_neg, jI_of, jI_to, j_le0, j_ge0, j_lt0, j_gt0, j_eq0, q_dvl, qz0, qz1, qz2, qz3, if_pos, if_neg, reduceIte, m_isOut, and_self]
    · right
      refine ⟨⟨z, Or.inl d, rfl⟩, ?_⟩
      unfold f_X11_isBit
      simp (disch := omega) only [qn0, qn1, qn2, qn3, qn4, qn5, qn6, qn7, qn8, qn9, qn10, qn11, qn12, qn13, qn14, qn15, qn16, qn17, qn18, qn24, qn30, qn31, qn32, qn33, qn36, qn38, qn40, qn41, qn42, qn43, qn45, qn47, qn48, qn49, qn50, qn51, qn52, qn53, qn57, qn58, qn59, qn60, qn61, qn62, qn63, qn91, qn93, qn97, qn99, qn100, qn103, qn104, qn112, qn113, qn115, qn116, qn118, qn119, qn121, qn124, qn173, qn177, qn240, qn255, qn295, qn352, qn353, qn533, qn999, qn1000, qn1023, qn6561, qn10000, qn20787, qn1000000, qn252645135, qn858993459, qn1000000000, qn1431655765, qj0, qj1, qj2, qj4, qj7, qj8, qj9, qj10, qj30, qj100, qj1000, qj1000000, qj1000000000, qj1442695040888963407, qj6364136223846793005, q_s1, q_s2, q_s3, q_s4, q_s5, iI_add, iI_sub, iI_mul, iI_neg, q_lt, q_le, q_eq, jI_add, jI_sub, jI_mul, jI_neg, jI_of, jI_to, j_le0, j_ge0, j_lt0, j_gt0, j_eq0, q_dvl, qz0, qz1, qz2, qz3, if_pos, if_neg, reduceIte, m_isIn, and_self]
    · right
      refine ⟨⟨z, Or.inr d, rfl⟩, ?_⟩
      unfold f_X11_isBit
      simp (disch := omega) only [qn0, qn1, qn2, qn3, qn4, qn5, qn6, qn7, qn8, qn9, qn10, qn11, qn12, qn13, qn14, qn15, qn16, qn17, qn18, qn24, qn30, qn31, qn32, qn33, qn36, qn38, qn40, qn41, qn42, qn43, qn45, qn47, qn48, qn49, qn50, qn51, qn52, qn53, qn57, qn58, qn59, qn60, qn61, qn62, qn63, qn91, qn93, qn97, qn99, qn100, qn103, qn104, qn112, qn113, qn115, qn116, qn118, qn119, qn121, qn124, qn173, qn177, qn240, qn255, qn295, qn352, qn353, qn533, qn999, qn1000, qn1023, qn6561, qn10000, qn20787, qn1000000, qn252645135, qn858993459, qn1000000000, qn1431655765, qj0, qj1, qj2, qj4, qj7, qj8, qj9, qj10, qj30, qj100, qj1000, qj1000000, qj1000000000, qj1442695040888963407, qj6364136223846793005, q_s1, q_s2, q_s3, q_s4, q_s5, iI_add, iI_sub, iI_mul, iI_neg, q_lt, q_le, q_eq, jI_add, jI_sub, jI_mul, jI_neg, jI_of, jI_to, j_le0, j_ge0, j_lt0, j_gt0, j_eq0, q_dvl, qz0, qz1, qz2, qz3, if_pos, if_neg, reduceIte, m_isIn, and_self]
  obtain ⟨m1, m2⟩ := n1 M C
  obtain ⟨m3, m4⟩ := n2 _ D1
  have hbad : ∀ v : Prop, v → v := fun _ h => h
  rcases hbit x2 with ⟨b1, b2⟩ | ⟨⟨a, ha, rfl⟩, b1, b2⟩
  · refine ⟨iI (-1000000), M, gs_up M 147 0 (iI 0), ?_, ?_, hI0.ag (ma_g0 iv_ag.rf _)⟩
    · unfold f_X11_couple
      simp (disch := omega) only [qn0, qn1, qn2, qn3, qn4, qn5, qn6, qn7, qn8, qn9, qn10, qn11, qn12, qn13, qn14, qn15, qn16, qn17, qn18, qn24, qn30, qn31, qn32, qn33, qn36, qn38, qn40, qn41, qn42, qn43, qn45, qn47, qn48, qn49, qn50, qn51, qn52, qn53, qn57, qn58, qn59, qn60, qn61, qn62, qn63, qn91, qn93, qn97, qn99, qn100, qn103, qn104, qn112, qn113, qn115, qn116, qn118, qn119, qn121, qn124, qn173, qn177, qn240, qn255, qn295, qn352, qn353, qn533, qn999, qn1000, qn1023, qn6561, qn10000, qn20787, qn1000000, qn252645135, qn858993459, qn1000000000, qn1431655765, q_s1, q_s2, q_s3, q_s4, q_s5, iI_add, iI_sub, iI_mul, iI_neg, q_lt, q_le, q_eq, qz0, qz1, qz2, qz3, if_pos, if_neg, reduceIte, m1, b1]
    · unfold f_X12_couple
      simp only [b2]
      simp (disch := omega) only [qn0, qn1, qn2, qn3, qn4, qn5, qn6, qn7, qn8, qn9, qn10, qn11, qn12, qn13, qn14, qn15, qn16, qn17, qn18, qn24, qn30, qn31, qn32, qn33, qn36, qn38, qn40, qn41, qn42, qn43, qn45, qn47, qn48, qn49, qn50, qn51, qn52, qn53, qn57, qn58, qn59, qn60, qn61, qn62, qn63, qn91, qn93, qn97, qn99, qn100, qn103, qn104, qn112, qn113, qn115, qn116, qn118, qn119, qn121, qn124, qn173, qn177, qn240, qn255, qn295, qn352, qn353, qn533, qn999, qn1000, qn1023, qn6561, qn10000, qn20787, qn1000000, qn252645135, qn858993459, qn1000000000, qn1431655765, q_s1, q_s2, q_s3, q_s4, q_s5, iI_add, iI_sub, iI_mul, iI_neg, q_lt, q_le, q_eq, qz0, qz1, qz2, qz3, if_pos, if_neg, reduceIte, m3]
  rcases hbit x3 with ⟨b3, b4⟩ | ⟨⟨b, hb, rfl⟩, b3, b4⟩
  · refine ⟨iI (-1000000), M, gs_up M 147 0 (iI 0), ?_, ?_, hI0.ag (ma_g0 iv_ag.rf _)⟩
    · unfold f_X11_couple
      simp (disch := omega) only [qn0, qn1, qn2, qn3, qn4, qn5, qn6, qn7, qn8, qn9, qn10, qn11, qn12, qn13, qn14, qn15, qn16, qn17, qn18, qn24, qn30, qn31, qn32, qn33, qn36, qn38, qn40, qn41, qn42, qn43, qn45, qn47, qn48, qn49, qn50, qn51, qn52, qn53, qn57, qn58, qn59, qn60, qn61, qn62, qn63, qn91, qn93, qn97, qn99, qn100, qn103, qn104, qn112, qn113, qn115, qn116, qn118, qn119, qn121, qn124, qn173, qn177, qn240, qn255, qn295, qn352, qn353, qn533, qn999, qn1000, qn1023, qn6561, qn10000, qn20787, qn1000000, qn252645135, qn858993459, qn1000000000, qn1431655765, q_s1, q_s2, q_s3, q_s4, q_s5, iI_add, iI_sub, iI_mul, iI_neg, q_lt, q_le, q_eq, qz0, qz1, qz2, qz3, if_pos, if_neg, reduceIte, m1, b1, b3]
    · unfold f_X12_couple
      simp only [b2, b4]
      simp (disch := omega) only [qn0, qn1, qn2, qn3, qn4, qn5, qn6, qn7, qn8, qn9, qn10, qn11, qn12, qn13, qn14, qn15, qn16, qn17, qn18, qn24, qn30, qn31, qn32, qn33, qn36, qn38, qn40, qn41, qn42, qn43, qn45, qn47, qn48, qn49, qn50, qn51, qn52, qn53, qn57, qn58, qn59, qn60, qn61, qn62, qn63, qn91, qn93, qn97, qn99, qn100, qn103, qn104, qn112, qn113, qn115, qn116, qn118, qn119, qn121, qn124, qn173, qn177, qn240, qn255, qn295, qn352, qn353, qn533, qn999, qn1000, qn1023, qn6561, qn10000, qn20787, qn1000000, qn252645135, qn858993459, qn1000000000, qn1431655765, q_s1, q_s2, q_s3, q_s4, q_s5, iI_add, iI_sub, iI_mul, iI_neg, q_lt, q_le, q_eq, qz0, qz1, qz2, qz3, if_pos, if_neg, reduceIte, m3]
  rcases hbit x4 with ⟨b5, b6⟩ | ⟨⟨c, hc, rfl⟩, b5, b6⟩
  · refine ⟨iI (-1000000), M, gs_up M 147 0 (iI 0), ?_, ?_, hI0.ag (ma_g0 iv_ag.rf _)⟩
    · unfold f_X11_couple
      simp (disch := omega) only [qn0, qn1, qn2, qn3, qn4, qn5, qn6, qn7, qn8, qn9, qn10, qn11, qn12, qn13, qn14, qn15, qn16, qn17, qn18, qn24, qn30, qn31, qn32, qn33, qn36, qn38, qn40, qn41, qn42, qn43, qn45, qn47, qn48, qn49, qn50, qn51, qn52, qn53, qn57, qn58, qn59, qn60, qn61, qn62, qn63, qn91, qn93, qn97, qn99, qn100, qn103, qn104, qn112, qn113, qn115, qn116, qn118, qn119, qn121, qn124, qn173, qn177, qn240, qn255, qn295, qn352, qn353, qn533, qn999, qn1000, qn1023, qn6561, qn10000, qn20787, qn1000000, qn252645135, qn858993459, qn1000000000, qn1431655765, q_s1, q_s2, q_s3, q_s4, q_s5, iI_add, iI_sub, iI_mul, iI_neg, q_lt, q_le, q_eq, qz0, qz1, qz2, qz3, if_pos, if_neg, reduceIte, m1, b1, b3, b5]
    · unfold f_X12_couple
      simp only [b2, b4, b6]
      simp (disch := omega) only [qn0, qn1, qn2, qn3, qn4, qn5, qn6, qn7, qn8, qn9, qn10, qn11, qn12, qn13, qn14, qn15, qn16, qn17, qn18, qn24, qn30, qn31, qn32, qn33, qn36, qn38, qn40, qn41, qn42, qn43, qn45, qn47, qn48, qn49, qn50, qn51, qn52, qn53, qn57, qn58, qn59, qn60, qn61, qn62, qn63, qn91, qn93, qn97, qn99, qn100, qn103, qn104, qn112, qn113, qn115, qn116, qn118, qn119, qn121, qn124, qn173, qn177, qn240, qn255, qn295, qn352, qn353, qn533, qn999, qn1000, qn1023, qn6561, qn10000, qn20787, qn1000000, qn252645135, qn858993459, qn1000000000, qn1431655765, q_s1, q_s2, q_s3, q_s4, q_s5, iI_add, iI_sub, iI_mul, iI_neg, q_lt, q_le, q_eq, qz0, qz1, qz2, qz3, if_pos, if_neg, reduceIte, m3]
  rcases hc with d | d
  · obtain ⟨M1, e1, g1⟩ := c_case W C hp f7
    have e2 := c_sh (ma_cs_b W.1 T V (T 3 2) p) ha hb
    have D2 := ma_D0 (D.ag w g1) w (iI 0)
    obtain ⟨m5, m6⟩ := n2 _ D2
    obtain ⟨M2, e3, g2⟩ := m_sh W D2 hp ha hb
    refine ⟨iI (ma_sh (ma_cs s T V (T 3 2) p) a b), M1, M2, ?_, ?_, hI0.ag ((ma_g0 g1 _).tr g2)⟩
    · unfold f_X11_couple f_X4_holding
      simp (disch := omega) only [qn0, qn1, qn2, qn3, qn4, qn5, qn6, qn7, qn8, qn9, qn10, qn11, qn12, qn13, qn14, qn15, qn16, qn17, qn18, qn24, qn30, qn31, qn32, qn33, qn36, qn38, qn40, qn41, qn42, qn43, qn45, qn47, qn48, qn49, qn50, qn51, qn52, qn53, qn57, qn58, qn59, qn60, qn61, qn62, qn63, qn91, qn93, qn97, qn99, qn100, qn103, qn104, qn112, qn113, qn115, qn116, qn118, qn119, qn121, qn124, qn173, qn177, qn240, qn255, qn295, qn352, qn353, qn533, qn999, qn1000, qn1023, qn6561, qn10000, qn20787, qn1000000, qn252645135, qn858993459, qn1000000000, qn1431655765, q_s1, q_s2, q_s3, q_s4, q_s5, iI_add, iI_sub, iI_mul, iI_neg, q_lt, q_le, q_eq, qz0, qz1, qz2, qz3, if_pos, if_neg, reduceIte, m1, b1, b3, b5, C.la, e1, e2]
    · unfold f_X12_couple
      simp only [b2, b4, b6]
      simp (disch := omega) only [qn0, qn1, qn2, qn3, qn4, qn5, qn6, qn7, qn8, qn9, qn10, qn11, qn12, qn13, qn14, qn15, qn16, qn17, qn18, qn24, qn30, qn31, qn32, qn33, qn36, qn38, qn40, qn41, qn42, qn43, qn45, qn47, qn48, qn49, qn50, qn51, qn52, qn53, qn57, qn58, qn59, qn60, qn61, qn62, qn63, qn91, qn93, qn97, qn99, qn100, qn103, qn104, qn112, qn113, qn115, qn116, qn118, qn119, qn121, qn124, qn173, qn177, qn240, qn255, qn295, qn352, qn353, qn533, qn999, qn1000, qn1023, qn6561, qn10000, qn20787, qn1000000, qn252645135, qn858993459, qn1000000000, qn1431655765, q_s1, q_s2, q_s3, q_s4, q_s5, iI_add, iI_sub, iI_mul, iI_neg, q_lt, q_le, q_eq, qz0, qz1, qz2, qz3, if_pos, if_neg, reduceIte, m5, e3]
  · obtain ⟨M1, e1, g1⟩ := c_case W C hq f7
    have e2 := c_sh (ma_cs_b W.1 T V (T 3 2) q) hb ha
    have D2 := ma_D0 (D.ag w g1) w (iI 0)
    obtain ⟨m5, m6⟩ := n2 _ D2
    obtain ⟨M2, e3, g2⟩ := m_sh W D2 hq hb ha
    refine ⟨iI (ma_sh (ma_cs s T V (T 3 2) q) b a), M1, M2, ?_, ?_, hI0.ag ((ma_g0 g1 _).tr g2)⟩
    · unfold f_X11_couple f_X4_holding
      simp (disch := omega) only [qn0, qn1, qn2, qn3, qn4, qn5, qn6, qn7, qn8, qn9, qn10, qn11, qn12, qn13, qn14, qn15, qn16, qn17, qn18, qn24, qn30, qn31, qn32, qn33, qn36, qn38, qn40, qn41, qn42, qn43, qn45, qn47, qn48, qn49, qn50, qn51, qn52, qn53, qn57, qn58, qn59, qn60, qn61, qn62, qn63, qn91, qn93, qn97, qn99, qn100, qn103, qn104, qn112, qn113, qn115, qn116, qn118, qn119, qn121, qn124, qn173, qn177, qn240, qn255, qn295, qn352, qn353, qn533, qn999, qn1000, qn1023, qn6561, qn10000, qn20787, qn1000000, qn252645135, qn858993459, qn1000000000, qn1431655765, q_s1, q_s2, q_s3, q_s4, q_s5, iI_add, iI_sub, iI_mul, iI_neg, q_lt, q_le, q_eq, qz0, qz1, qz2, qz3, if_pos, if_neg, reduceIte, m1, m2, b1, b3, b5, C.la, e1, e2]
    · unfold f_X12_couple
      simp only [b2, b4, b6]
      simp (disch := omega) only [qn0, qn1, qn2, qn3, qn4, qn5, qn6, qn7, qn8, qn9, qn10, qn11, qn12, qn13, qn14, qn15, qn16, qn17, qn18, qn24, qn30, qn31, qn32, qn33, qn36, qn38, qn40, qn41, qn42, qn43, qn45, qn47, qn48, qn49, qn50, qn51, qn52, qn53, qn57, qn58, qn59, qn60, qn61, qn62, qn63, qn91, qn93, qn97, qn99, qn100, qn103, qn104, qn112, qn113, qn115, qn116, qn118, qn119, qn121, qn124, qn173, qn177, qn240, qn255, qn295, qn352, qn353, qn533, qn999, qn1000, qn1023, qn6561, qn10000, qn20787, qn1000000, qn252645135, qn858993459, qn1000000000, qn1431655765, q_s1, q_s2, q_s3, q_s4, q_s5, iI_add, iI_sub, iI_mul, iI_neg, q_lt, q_le, q_eq, qz0, qz1, qz2, qz3, if_pos, if_neg, reduceIte, m5, m6, e3]
