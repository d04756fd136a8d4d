/-! a TOWN taken: both -/
section TextT2
variable {s : Nat → Int} {T : Nat → Nat → Int} {V : ma_V} {M M1 N : gs_M} {L : gs_L} {D : Nat → Int} {p i k n : Nat} {y : tw_T}
theorem q_c74 (M : gs_M) : gs_cpy M 7 3 (iI 0) 4 3 (iI 0) (iI 3) = some (gs_row M 4 (va_cpy (M 7) (M 4) 0 0 3)) := by
  unfold gs_cpy
  rw [if_neg (by decide +kernel)]
  rfl
theorem q_c85 (M : gs_M) : gs_cpy M 8 40 (iI 0) 5 40 (iI 0) (iI 40) = some (gs_row M 5 (va_cpy (M 8) (M 5) 0 0 40)) := by
  unfold gs_cpy
  rw [if_neg (by decide +kernel)]
  rfl
theorem va_0 {f g : Nat → Int32} {n k : Nat} (h : k < n) : va_cpy f g 0 0 n k = f k := by
  unfold va_cpy
  rw [if_pos (by omega)]
  congr 1
  omega
theorem c_copyT (C : tw_C M N y) (hp : y.2.2.1 ≤ 8) {a : Nat} {t : Int} : ∃ Q, f_X9_copyFrom (tp_m N a t) = some Q ∧ Q 3 2 = iI (y.2.2.1 : Nat) ∧ (∀ k, k < 3 → Q 4 k = iI (y.2.2.2.1 k)) ∧ (∀ k, k < 5 * y.2.2.1 → Q 5 k = iI (y.2.2.2.2 k)) ∧ ∀ x z, x ≠ 3 → x ≠ 4 → x ≠ 5 → Q x z = tp_m N a t x z := by
  obtain ⟨g1, g2, g3, g4, g5⟩ := C
  have e1 := q_c74 (tp_m N a t)
  have e2 := q_c85 (gs_row (tp_m N a t) 4 (va_cpy (tp_m N a t 7) (tp_m N a t 4) 0 0 3))
  have r62 : gs_row (gs_row (tp_m N a t) 4 (va_cpy (tp_m N a t 7) (tp_m N a t 4) 0 0 3)) 5 (va_cpy (gs_row (tp_m N a t) 4 (va_cpy (tp_m N a t 7) (tp_m N a t 4) 0 0 3) 8) (gs_row (tp_m N a t) 4 (va_cpy (tp_m N a t 7) (tp_m N a t 4) 0 0 3) 5) 0 0 40) 6 2 = iI (y.2.2.1 : Nat) := by
    rw [ma_rowr_ne _ _ _ _ (by decide), ma_rowr_ne _ _ _ _ (by decide)]
    exact g1
  refine ⟨gs_up (gs_row (gs_row (tp_m N a t) 4 (va_cpy (tp_m N a t 7) (tp_m N a t 4) 0 0 3)) 5 (va_cpy (gs_row (tp_m N a t) 4 (va_cpy (tp_m N a t 7) (tp_m N a t 4) 0 0 3) 8) (gs_row (tp_m N a t) 4 (va_cpy (tp_m N a t 7) (tp_m N a t 4) 0 0 3) 5) 0 0 40)) 3 2 (iI (y.2.2.1 : Nat)), ?_, gs_up_eq _ _ _ _, fun k hk => ?_, fun k hk => ?_, fun x z x1 x2 x3 => ?_⟩
  · unfold f_X9_copyFrom
    simp (disch := omega) only [qn0, qn1, qn2, qn3, qn4, qn5, qn6, qn7, qn8, qn9, qn10, qn11, qn12, qn13, qn14, qn15, qn16, qn17, qn18, qn24, qn30, qn31, qn32, qn33, qn36, qn38, qn40, qn41, qn42, qn43, qn45, qn47, qn48, qn49, qn50, qn51, qn52, qn53, qn57, qn58, qn59, qn60, qn61, qn62, qn63, qn91, qn93, qn97, qn99, qn100, qn103, qn104, qn112, qn113, qn115, qn116, qn118, qn119, qn121, qn124, qn173, qn177, qn240, qn255, qn295, qn352, qn353, qn533, qn999, qn1000, qn1023, qn6561, qn10000, qn20787, qn1000000, qn252645135, qn858993459, qn1000000000, qn1431655765, q_s1, q_s2, q_s3, q_s4, q_s5, iI_add, iI_sub, iI_mul, iI_neg, q_lt, q_le, q_eq, qz0, qz1, qz2, qz3, if_pos, if_neg, reduceIte, e1, e2, r62]
  · rw [ma_row_ne _ _ _ _ _ (by decide), ma_rowr_ne _ _ _ _ (by decide), ma_rowr_eq, va_0 hk, tp_mr (by decide)]
    exact g3 k hk
  · rw [ma_row_ne _ _ _ _ _ (by decide), ma_rowr_eq, va_0 (by omega), ma_rowr_ne _ _ _ _ (by decide), tp_mr (by decide)]
    exact g4 k hk
  · rw [ma_row_ne _ _ _ _ _ x1, ma_rowr_ne _ _ _ _ x3, ma_rowr_ne _ _ _ _ x2]
theorem c_begin0 (M : gs_M) : ∃ j Q, l_X6_begin_2 gs_FU (iI 0) M = some (j, Q) ∧ (∀ k, k < 173 → Q 10 k = iI 0) ∧ ∀ x, x ≠ 10 → Q x = M x := by
  obtain ⟨r, e, N1, h1, h2, rfl⟩ := ma_up0 (fun f i (k : gs_M) => l_X6_begin_2 f i k) 173
    (fun i k => (∀ j, j < i → k 10 j = iI 0) ∧ ∀ x, x ≠ 10 → k x = M x)
    (fun r => ∃ Q, (∀ j, j < 173 → Q 10 j = iI 0) ∧ (∀ x, x ≠ 10 → Q x = M x) ∧ r = (iI (173 : Nat), Q)) M (by decide) ⟨fun j hj => by omega, fun _ _ => rfl⟩
    (by
      rintro f i k hi ⟨h1, h2⟩
      left
      have e4 : ∀ v, gs_wr k 10 173 (iI i) v = some (gs_up k 10 i v) := fun v => by
        rw [q_wrn i rfl (by omega) (by decide)]
      refine ⟨gs_up k 10 i (iI 0), ?_, fun j hj => ?_, fun x hx => ?_⟩
      · simp only [l_X6_begin_2]
        simp (disch := omega) only [qn0, qn1, qn2, qn3, qn4, qn5, qn6, qn7, qn8, qn9, qn10, qn11, qn12, qn13, qn14, qn15, qn16, qn17, qn18, qn24, qn30, qn31, qn32, qn33, qn36, qn38, qn40, qn41, qn42, qn43, qn45, qn47, qn48, qn49, qn50, qn51, qn52, qn53, qn57, qn58, qn59, qn60, qn61, qn62, qn63, qn91, qn93, qn97, qn99, qn100, qn103, qn104, qn112, qn113, qn115, qn116, qn118, qn119, qn121, qn124, qn173, qn177, qn240, qn255, qn295, qn352, qn353, qn533, qn999, qn1000, qn1023, qn6561, qn10000, qn20787, qn1000000, qn252645135, qn858993459, qn1000000000, qn1431655765, q_s1, q_s2, q_s3, q_s4, q_s5, iI_add, iI_sub, iI_mul, iI_neg, q_lt, q_le, q_eq, qz0, qz1, qz2, qz3, if_pos, if_neg, reduceIte, e4]
      · by_cases c : j = i
        · subst c
          rw [gs_up_eq]
        · rw [ma_cell_ne _ _ _ _ _ _ (by omega)]
          exact h1 j (by omega)
      · rw [ma_row_ne _ _ _ _ _ hx]
        exact h2 x hx)
    (by
      rintro f k ⟨h1, h2⟩
      refine ⟨_, ?_, k, h1, h2, rfl⟩
      simp only [l_X6_begin_2]
      simp (disch := omega) only [qn0, qn1, qn2, qn3, qn4, qn5, qn6, qn7, qn8, qn9, qn10, qn11, qn12, qn13, qn14, qn15, qn16, qn17, qn18, qn24, qn30, qn31, qn32, qn33, qn36, qn38, qn40, qn41, qn42, qn43, qn45, qn47, qn48, qn49, qn50, qn51, qn52, qn53, qn57, qn58, qn59, qn60, qn61, qn62, qn63, qn91, qn93, qn97, qn99, qn100, qn103, qn104, qn112, qn113, qn115, qn116, qn118, qn119, qn121, qn124, qn173, qn177, qn240, qn255, qn295, qn352, qn353, qn533, qn999, qn1000, qn1023, qn6561, qn10000, qn20787, qn1000000, qn252645135, qn858993459, qn1000000000, qn1431655765, q_s1, q_s2, q_s3, q_s4, q_s5, iI_add, iI_sub, iI_mul, iI_neg, q_lt, q_le, q_eq, qz0, qz1, qz2, qz3, if_pos, if_neg, reduceIte])
  exact ⟨_, N1, e, h1, h2⟩
theorem m_begin0 (x1 x2 : Int32) (M : gs_M) : ∃ j Q, l_X12_text_265 x1 x2 gs_FU (iI 0) M = some (j, Q) ∧ (∀ k, k < 533 → Q 158 k = iI 0) ∧ ∀ x, x ≠ 158 → Q x = M x := by
  obtain ⟨r, e, N1, h1, h2, rfl⟩ := ma_up0 (fun f i (k : gs_M) => l_X12_text_265 x1 x2 f i k) 533
    (fun i k => (∀ j, j < i → k 158 j = iI 0) ∧ ∀ x, x ≠ 158 → k x = M x)
    (fun r => ∃ Q, (∀ j, j < 533 → Q 158 j = iI 0) ∧ (∀ x, x ≠ 158 → Q x = M x) ∧ r = (iI (533 : Nat), Q)) M (by decide) ⟨fun j hj => by omega, fun _ _ => rfl⟩
    (by
      rintro f i k hi ⟨h1, h2⟩
      left
      have e4 : ∀ v, gs_wr k 158 533 (iI i) v = some (gs_up k 158 i v) := fun v => by
        rw [q_wrn i rfl (by omega) (by decide)]
      refine ⟨gs_up k 158 i (iI 0), ?_, fun j hj => ?_, fun x hx => ?_⟩
      · simp only [l_X12_text_265]
        simp (disch := omega) only [qn0, qn1, qn2, qn3, qn4, qn5, qn6, qn7, qn8, qn9, qn10, qn11, qn12, qn13, qn14, qn15, qn16, qn17, qn18, qn24, qn30, qn31, qn32, qn33, qn36, qn38, qn40, qn41, qn42, qn43, qn45, qn47, qn48, qn49, qn50, qn51, qn52, qn53, qn57, qn58, qn59, qn60, qn61, qn62, qn63, qn91, qn93, qn97, qn99, qn100, qn103, qn104, qn112, qn113, qn115, qn116, qn118, qn119, qn121, qn124, qn173, qn177, qn240, qn255, qn295, qn352, qn353, qn533, qn999, qn1000, qn1023, qn6561, qn10000, qn20787, qn1000000, qn252645135, qn858993459, qn1000000000, qn1431655765, q_s1, q_s2, q_s3, q_s4, q_s5, iI_add, iI_sub, iI_mul, iI_neg, q_lt, q_le, q_eq, qz0, qz1, qz2, qz3, if_pos, if_neg, reduceIte, e4]
      · by_cases c : j = i
        · subst c
          rw [gs_up_eq]
        · rw [ma_cell_ne _ _ _ _ _ _ (by omega)]
          exact h1 j (by omega)
      · rw [ma_row_ne _ _ _ _ _ hx]
        exact h2 x hx)
    (by
      rintro f k ⟨h1, h2⟩
      refine ⟨_, ?_, k, h1, h2, rfl⟩
      simp only [l_X12_text_265]
      simp (disch := omega) only [qn0, qn1, qn2, qn3, qn4, qn5, qn6, qn7, qn8, qn9, qn10, qn11, qn12, qn13, qn14, qn15, qn16, qn17, qn18, qn24, qn30, qn31, qn32, qn33, qn36, qn38, qn40, qn41, qn42, qn43, qn45, qn47, qn48, qn49, qn50, qn51, qn52, qn53, qn57, qn58, qn59, qn60, qn61, qn62, qn63, qn91, qn93, qn97, qn99, qn100, qn103, qn104, qn112, qn113, qn115, qn116, qn118, qn119, qn121, qn124, qn173, qn177, qn240, qn255, qn295, qn352, qn353, qn533, qn999, qn1000, qn1023, qn6561, qn10000, qn20787, qn1000000, qn252645135, qn858993459, qn1000000000, qn1431655765, q_s1, q_s2, q_s3, q_s4, q_s5, iI_add, iI_sub, iI_mul, iI_neg, q_lt, q_le, q_eq, qz0, qz1, qz2, qz3, if_pos, if_neg, reduceIte])
  exact ⟨_, N1, e, h1, h2⟩
/-- three cells of one person -/
theorem tw_3 {m : Nat} {r : Nat} (h : ∀ j, j < m → M r j = iI (tw_s i D j)) : ∀ j, j < m → gs_up (gs_up (gs_up M r (6 * i) (iI (D (5 * i)))) r (6 * i + 1) (iI (D (5 * i + 2)))) r (6 * i + 2) (iI (D (5 * i + 3))) r j = iI (tw_s (i + 1) D j) := by
  intro j hj
  by_cases c2 : j = 6 * i + 2
  · rw [c2, gs_up_eq, tw_s_c (by omega)]
  · rw [ma_cell_ne _ _ _ _ _ _ (by omega)]
    by_cases c1 : j = 6 * i + 1
    · rw [c1, gs_up_eq, tw_s_b (by omega)]
    · rw [ma_cell_ne _ _ _ _ _ _ (by omega)]
      by_cases c0 : j = 6 * i
      · rw [c0, gs_up_eq, tw_s_a (by omega)]
      · rw [ma_cell_ne _ _ _ _ _ _ (by omega), h j hj, tw_s_n c0 c1 c2]
theorem c_begin1 (hp : p ≤ 8) (hM : M 3 2 = iI (p : Nat)) (h5 : ∀ k, k < 5 * p → M 5 k = iI (D k)) (h0 : ∀ k, k < 173 → M 10 k = iI 0) : ∃ j Q, l_X6_begin_24 gs_FU (iI 0) M = some (j, Q) ∧ (∀ k, k < 173 → Q 10 k = iI (tw_s p D k)) ∧ ∀ x, x ≠ 10 → Q x = M x := by
  obtain ⟨r, e, N1, h1, h2, rfl⟩ := ma_up0 (fun f i (k : gs_M) => l_X6_begin_24 f i k) p
    (fun i k => (∀ j, j < 173 → k 10 j = iI (tw_s i D j)) ∧ ∀ x, x ≠ 10 → k x = M x)
    (fun r => ∃ Q, (∀ j, j < 173 → Q 10 j = iI (tw_s p D j)) ∧ (∀ x, x ≠ 10 → Q x = M x) ∧ r = (iI (p : Nat), Q)) M (by omega) ⟨fun j hj => by rw [h0 j hj, tw_s_z], fun _ _ => rfl⟩
    (by
      rintro f i k hi ⟨h1, h2⟩
      left
      have ec : ∀ K : gs_M, (∀ x, x ≠ 10 → K x = M x) → f_X9_crowd K = some (iI (p : Nat)) := fun K h => by
        unfold f_X9_crowd
        rw [h 3 (by decide), hM]
      have et : ∀ (K : gs_M) (q : Nat), q < 5 → (∀ x, x ≠ 10 → K x = M x) → f_X9_told K (iI i) (iI q) = some (iI (D (5 * i + q))) := fun K q hq h => by
        unfold f_X9_told
        rw [qn5, iI_mul, iI_add, q_rdn (5 * i + q) (by omega) (by omega) (by decide), gs_s1, h 5 (by decide), h5 _ (by omega)]
      have es : ∀ (K : gs_M) (q : Nat), q < 6 → ∀ x, f_X6_set K (iI i) (iI q) x = some (gs_up K 10 (6 * i + q) x) := fun K q hq x => c_set (by omega) hq x
      have f1 : ∀ v, ∀ x, x ≠ 10 → gs_up k 10 (6 * i) v x = M x := fun v x hx => by rw [ma_row_ne _ _ _ _ _ hx]; exact h2 x hx
      have f2 : ∀ v v', ∀ x, x ≠ 10 → gs_up (gs_up k 10 (6 * i) v) 10 (6 * i + 1) v' x = M x := fun v v' x hx => by rw [ma_row_ne _ _ _ _ _ hx]; exact f1 v x hx
      have t0 : f_X9_told k (iI i) (iI 0) = some (iI (D (5 * i))) := et k 0 (by decide) h2
      have s0 : ∀ x, f_X6_set k (iI i) (iI 0) x = some (gs_up k 10 (6 * i) x) := es k 0 (by decide)
      have t2 : ∀ v, f_X9_told (gs_up k 10 (6 * i) v) (iI i) (iI 2) = some (iI (D (5 * i + 2))) := fun v => et _ 2 (by decide) (f1 v)
      have s1 : ∀ v x, f_X6_set (gs_up k 10 (6 * i) v) (iI i) (iI 1) x = some (gs_up (gs_up k 10 (6 * i) v) 10 (6 * i + 1) x) := fun v => es _ 1 (by decide)
      have t3 : ∀ v v', f_X9_told (gs_up (gs_up k 10 (6 * i) v) 10 (6 * i + 1) v') (iI i) (iI 3) = some (iI (D (5 * i + 3))) := fun v v' => et _ 3 (by decide) (f2 v v')
      have s2 : ∀ v v' x, f_X6_set (gs_up (gs_up k 10 (6 * i) v) 10 (6 * i + 1) v') (iI i) (iI 2) x = some (gs_up (gs_up (gs_up k 10 (6 * i) v) 10 (6 * i + 1) v') 10 (6 * i + 2) x) := fun v v' => es _ 2 (by decide)
      refine ⟨gs_up (gs_up (gs_up k 10 (6 * i) (iI (D (5 * i)))) 10 (6 * i + 1) (iI (D (5 * i + 2)))) 10 (6 * i + 2) (iI (D (5 * i + 3))), ?_, tw_3 h1, fun x hx => ?_⟩
      · simp only [l_X6_begin_24]
        simp (disch := omega) only [qn0, qn1, qn2, qn3, qn4, qn5, qn6, qn7, qn8, qn9, qn10, qn11, qn12, qn13, qn14, qn15, qn16, qn17, qn18, qn24, qn30, qn31, qn32, qn33, qn36, qn38, qn40, qn41, qn42, qn43, qn45, qn47, qn48, qn49, qn50, qn51, qn52, qn53, qn57, qn58, qn59, qn60, qn61, qn62, qn63, qn91, qn93, qn97, qn99, qn100, qn103, qn104, qn112, qn113, qn115, qn116, qn118, qn119, qn121, qn124, qn173, qn177, qn240, qn255, qn295, qn352, qn353, qn533, qn999, qn1000, qn1023, qn6561, qn10000, qn20787, qn1000000, qn252645135, qn858993459, qn1000000000, qn1431655765, q_s1, q_s2, q_s3, q_s4, q_s5, iI_add, iI_sub, iI_mul, iI_neg, q_lt, q_le, q_eq, qz0, qz1, qz2, qz3, if_pos, if_neg, reduceIte, ec k h2, t0, s0, t2, s1, t3, s2]
      · rw [ma_row_ne _ _ _ _ _ hx]
        exact f2 _ _ x hx)
    (by
      rintro f k ⟨h1, h2⟩
      refine ⟨_, ?_, k, h1, h2, rfl⟩
      have ec : f_X9_crowd k = some (iI (p : Nat)) := by
        unfold f_X9_crowd
        rw [h2 3 (by decide), hM]
      simp only [l_X6_begin_24]
      simp (disch := omega) only [qn0, qn1, qn2, qn3, qn4, qn5, qn6, qn7, qn8, qn9, qn10, qn11, qn12, qn13, qn14, qn15, qn16, qn17, qn18, qn24, qn30, qn31, qn32, qn33, qn36, qn38, qn40, qn41, qn42, qn43, qn45, qn47, qn48, qn49, qn50, qn51, qn52, qn53, qn57, qn58, qn59, qn60, qn61, qn62, qn63, qn91, qn93, qn97, qn99, qn100, qn103, qn104, qn112, qn113, qn115, qn116, qn118, qn119, qn121, qn124, qn173, qn177, qn240, qn255, qn295, qn352, qn353, qn533, qn999, qn1000, qn1023, qn6561, qn10000, qn20787, qn1000000, qn252645135, qn858993459, qn1000000000, qn1431655765, q_s1, q_s2, q_s3, q_s4, q_s5, iI_add, iI_sub, iI_mul, iI_neg, q_lt, q_le, q_eq, qz0, qz1, qz2, qz3, if_pos, if_neg, reduceIte, ec])
  exact ⟨_, N1, e, h1, h2⟩
theorem m_begin1 (x1 x2 : Int32) (hp : p ≤ 8) (hM : M 147 24 = iI (p : Nat)) (h5 : ∀ k, k < 5 * p → M 154 k = iI (D k)) (h0 : ∀ k, k < 533 → M 158 k = iI 0) : ∃ j Q, l_X12_text_287 x1 x2 gs_FU (iI 0) M = some (j, Q) ∧ (∀ k, k < 533 → Q 158 k = iI (tw_s p D k)) ∧ ∀ x, x ≠ 158 → Q x = M x := by
  obtain ⟨r, e, N1, h1, h2, rfl⟩ := ma_up0 (fun f i (k : gs_M) => l_X12_text_287 x1 x2 f i k) p
    (fun i k => (∀ j, j < 533 → k 158 j = iI (tw_s i D j)) ∧ ∀ x, x ≠ 158 → k x = M x)
    (fun r => ∃ Q, (∀ j, j < 533 → Q 158 j = iI (tw_s p D j)) ∧ (∀ x, x ≠ 158 → Q x = M x) ∧ r = (iI (p : Nat), Q)) M (by omega) ⟨fun j hj => by rw [h0 j hj, tw_s_z], fun _ _ => rfl⟩
    (by
      rintro f i k hi ⟨h1, h2⟩
      left
      have ec : k 147 24 = iI (p : Nat) := by rw [h2 147 (by decide), hM]
      have et : ∀ (K : gs_M) (z : Int) (q : Nat), q < 5 → z = 5 * (i : Int) + q → (∀ x, x ≠ 158 → K x = M x) → gs_rd K 154 40 (iI z) = some (iI (D (5 * i + q))) := fun K z q hq hz h => by
        rw [q_rdn (5 * i + q) (by omega) (by omega) (by decide), h 154 (by decide), h5 _ (by omega)]
      have es : ∀ (K : gs_M) (q : Nat), q < 6 → ∀ x, gs_wr K 158 533 (iI (6 * (i : Int) + q)) x = some (gs_up K 158 (6 * i + q) x) := fun K q hq x => q_wrn (6 * i + q) (by omega) (by omega) (by decide)
      have f1 : ∀ v, ∀ x, x ≠ 158 → gs_up k 158 (6 * i) v x = M x := fun v x hx => by rw [ma_row_ne _ _ _ _ _ hx]; exact h2 x hx
      have f2 : ∀ v v', ∀ x, x ≠ 158 → gs_up (gs_up k 158 (6 * i) v) 158 (6 * i + 1) v' x = M x := fun v v' x hx => by rw [ma_row_ne _ _ _ _ _ hx]; exact f1 v x hx
      have t0 : gs_rd k 154 40 (iI (5 * (i : Int))) = some (iI (D (5 * i))) := et k _ 0 (by decide) (by omega) h2
      have s0 : ∀ x, gs_wr k 158 533 (iI (6 * (i : Int) + 0)) x = some (gs_up k 158 (6 * i) x) := es k 0 (by decide)
      have t2 : ∀ v, gs_rd (gs_up k 158 (6 * i) v) 154 40 (iI (5 * (i : Int) + 2)) = some (iI (D (5 * i + 2))) := fun v => et _ _ 2 (by decide) (by omega) (f1 v)
      have s1 : ∀ v x, gs_wr (gs_up k 158 (6 * i) v) 158 533 (iI (6 * (i : Int) + 1)) x = some (gs_up (gs_up k 158 (6 * i) v) 158 (6 * i + 1) x) := fun v => es _ 1 (by decide)
      have t3 : ∀ v v', gs_rd (gs_up (gs_up k 158 (6 * i) v) 158 (6 * i + 1) v') 154 40 (iI (5 * (i : Int) + 3)) = some (iI (D (5 * i + 3))) := fun v v' => et _ _ 3 (by decide) (by omega) (f2 v v')
      have s2 : ∀ v v' x, gs_wr (gs_up (gs_up k 158 (6 * i) v) 158 (6 * i + 1) v') 158 533 (iI (6 * (i : Int) + 2)) x = some (gs_up (gs_up (gs_up k 158 (6 * i) v) 158 (6 * i + 1) v') 158 (6 * i + 2) x) := fun v v' => es _ 2 (by decide)
      refine ⟨gs_up (gs_up (gs_up k 158 (6 * i) (iI (D (5 * i)))) 158 (6 * i + 1) (iI (D (5 * i + 2)))) 158 (6 * i + 2) (iI (D (5 * i + 3))), ?_, tw_3 h1, fun x hx => ?_⟩
      · simp only [l_X12_text_287]
        simp (disch := omega) only [qn0, qn1, qn2, qn3, qn4, qn5, qn6, qn7, qn8, qn9, qn10, qn11, qn12, qn13, qn14, qn15, qn16, qn17, qn18, qn24, qn30, qn31, qn32, qn33, qn36, qn38, qn40, qn41, qn42, qn43, qn45, qn47, qn48, qn49, qn50, qn51, qn52, qn53, qn57, qn58, qn59, qn60, qn61, qn62, qn63, qn91, qn93, qn97, qn99, qn100, qn103, qn104, qn112, qn113, qn115, qn116, qn118, qn119, qn121, qn124, qn173, qn177, qn240, qn255, qn295, qn352, qn353, qn533, qn999, qn1000, qn1023, qn6561, qn10000, qn20787, qn1000000, qn252645135, qn858993459, qn1000000000, qn1431655765, q_s1, q_s2, q_s3, q_s4, q_s5, iI_add, iI_sub, iI_mul, iI_neg, q_lt, q_le, q_eq, qz0, qz1, qz2, qz3, if_pos, if_neg, reduceIte, ec, t0, s0, t2, s1, t3, s2]
      · rw [ma_row_ne _ _ _ _ _ hx]
        exact f2 _ _ x hx)
    (by
      rintro f k ⟨h1, h2⟩
      refine ⟨_, ?_, k, h1, h2, rfl⟩
      have ec : k 147 24 = iI (p : Nat) := by rw [h2 147 (by decide), hM]
      simp only [l_X12_text_287]
      simp (disch := omega) only [qn0, qn1, qn2, qn3, qn4, qn5, qn6, qn7, qn8, qn9, qn10, qn11, qn12, qn13, qn14, qn15, qn16, qn17, qn18, qn24, qn30, qn31, qn32, qn33, qn36, qn38, qn40, qn41, qn42, qn43, qn45, qn47, qn48, qn49, qn50, qn51, qn52, qn53, qn57, qn58, qn59, qn60, qn61, qn62, qn63, qn91, qn93, qn97, qn99, qn100, qn103, qn104, qn112, qn113, qn115, qn116, qn118, qn119, qn121, qn124, qn173, qn177, qn240, qn255, qn295, qn352, qn353, qn533, qn999, qn1000, qn1023, qn6561, qn10000, qn20787, qn1000000, qn252645135, qn858993459, qn1000000000, qn1431655765, q_s1, q_s2, q_s3, q_s4, q_s5, iI_add, iI_sub, iI_mul, iI_neg, q_lt, q_le, q_eq, qz0, qz1, qz2, qz3, if_pos, if_neg, reduceIte, ec])
  exact ⟨_, N1, e, h1, h2⟩
theorem m_l214 (x1 x2 : Int32) (M : gs_M) : ∃ j Q, l_X12_text_214 x1 x2 gs_FU (iI 0) M = some (j, Q) ∧ (∀ k, k < 3 → Q 152 k = M 153 k) ∧ ∀ x, x ≠ 152 → Q x = M x := by
  obtain ⟨r, e, N1, h1, h2, rfl⟩ := ma_up0 (fun f i (k : gs_M) => l_X12_text_214 x1 x2 f i k) 3
    (fun i k => (∀ j, j < i → k 152 j = M 153 j) ∧ ∀ x, x ≠ 152 → k x = M x)
    (fun r => ∃ Q, (∀ j, j < 3 → Q 152 j = M 153 j) ∧ (∀ x, x ≠ 152 → Q x = M x) ∧ r = (iI (3 : Nat), Q)) M (by decide) ⟨fun j hj => by omega, fun _ _ => rfl⟩
    (by
      rintro f i k hi ⟨h1, h2⟩
      left
      have e1 : gs_rd k 153 3 (iI i) = some (M 153 i) := by
        rw [q_rdn i rfl (by omega) (by decide), h2 153 (by decide)]
      have e4 : ∀ v, gs_wr k 152 3 (iI i) v = some (gs_up k 152 i v) := fun v => by
        rw [q_wrn i rfl (by omega) (by decide)]
      refine ⟨gs_up k 152 i (M 153 i), ?_, fun j hj => ?_, fun x hx => ?_⟩
      · simp only [l_X12_text_214]
        simp (disch := omega) only [qn0, qn1, qn2, qn3, qn4, qn5, qn6, qn7, qn8, qn9, qn10, qn11, qn12, qn13, qn14, qn15, qn16, qn17, qn18, qn24, qn30, qn31, qn32, qn33, qn36, qn38, qn40, qn41, qn42, qn43, qn45, qn47, qn48, qn49, qn50, qn51, qn52, qn53, qn57, qn58, qn59, qn60, qn61, qn62, qn63, qn91, qn93, qn97, qn99, qn100, qn103, qn104, qn112, qn113, qn115, qn116, qn118, qn119, qn121, qn124, qn173, qn177, qn240, qn255, qn295, qn352, qn353, qn533, qn999, qn1000, qn1023, qn6561, qn10000, qn20787, qn1000000, qn252645135, qn858993459, qn1000000000, qn1431655765, q_s1, q_s2, q_s3, q_s4, q_s5, iI_add, iI_sub, iI_mul, iI_neg, q_lt, q_le, q_eq, qz0, qz1, qz2, qz3, if_pos, if_neg, reduceIte, e1, e4]
      · by_cases c : j = i
        · subst c
          rw [gs_up_eq]
        · rw [ma_cell_ne _ _ _ _ _ _ (by omega)]
          exact h1 j (by omega)
      · rw [ma_row_ne _ _ _ _ _ hx]
        exact h2 x hx)
    (by
      rintro f k ⟨h1, h2⟩
      refine ⟨_, ?_, k, h1, h2, rfl⟩
      simp only [l_X12_text_214]
      simp (disch := omega) only [qn0, qn1, qn2, qn3, qn4, qn5, qn6, qn7, qn8, qn9, qn10, qn11, qn12, qn13, qn14, qn15, qn16, qn17, qn18, qn24, qn30, qn31, qn32, qn33, qn36, qn38, qn40, qn41, qn42, qn43, qn45, qn47, qn48, qn49, qn50, qn51, qn52, qn53, qn57, qn58, qn59, qn60, qn61, qn62, qn63, qn91, qn93, qn97, qn99, qn100, qn103, qn104, qn112, qn113, qn115, qn116, qn118, qn119, qn121, qn124, qn173, qn177, qn240, qn255, qn295, qn352, qn353, qn533, qn999, qn1000, qn1023, qn6561, qn10000, qn20787, qn1000000, qn252645135, qn858993459, qn1000000000, qn1431655765, q_s1, q_s2, q_s3, q_s4, q_s5, iI_add, iI_sub, iI_mul, iI_neg, q_lt, q_le, q_eq, qz0, qz1, qz2, qz3, if_pos, if_neg, reduceIte])
  exact ⟨_, N1, e, h1, h2⟩
theorem m_l239 (x1 x2 : Int32) (M : gs_M) : ∃ j Q, l_X12_text_239 x1 x2 gs_FU (iI 0) M = some (j, Q) ∧ (∀ k, k < 40 → Q 154 k = M 155 k) ∧ ∀ x, x ≠ 154 → Q x = M x := by
  obtain ⟨r, e, N1, h1, h2, rfl⟩ := ma_up0 (fun f i (k : gs_M) => l_X12_text_239 x1 x2 f i k) 40
    (fun i k => (∀ j, j < i → k 154 j = M 155 j) ∧ ∀ x, x ≠ 154 → k x = M x)
    (fun r => ∃ Q, (∀ j, j < 40 → Q 154 j = M 155 j) ∧ (∀ x, x ≠ 154 → Q x = M x) ∧ r = (iI (40 : Nat), Q)) M (by decide) ⟨fun j hj => by omega, fun _ _ => rfl⟩
    (by
      rintro f i k hi ⟨h1, h2⟩
      left
      have e1 : gs_rd k 155 40 (iI i) = some (M 155 i) := by
        rw [q_rdn i rfl (by omega) (by decide), h2 155 (by decide)]
      have e4 : ∀ v, gs_wr k 154 40 (iI i) v = some (gs_up k 154 i v) := fun v => by
        rw [q_wrn i rfl (by omega) (by decide)]
      refine ⟨gs_up k 154 i (M 155 i), ?_, fun j hj => ?_, fun x hx => ?_⟩
      · simp only [l_X12_text_239]
        simp (disch := omega) only [qn0, qn1, qn2, qn3, qn4, qn5, qn6, qn7, qn8, qn9, qn10, qn11, qn12, qn13, qn14, qn15, qn16, qn17, qn18, qn24, qn30, qn31, qn32, qn33, qn36, qn38, qn40, qn41, qn42, qn43, qn45, qn47, qn48, qn49, qn50, qn51, qn52, qn53, qn57, qn58, qn59, qn60, qn61, qn62, qn63, qn91, qn93, qn97, qn99, qn100, qn103, qn104, qn112, qn113, qn115, qn116, qn118, qn119, qn121, qn124, qn173, qn177, qn240, qn255, qn295, qn352, qn353, qn533, qn999, qn1000, qn1023, qn6561, qn10000, qn20787, qn1000000, qn252645135, qn858993459, qn1000000000, qn1431655765, q_s1, q_s2, q_s3, q_s4, q_s5, iI_add, iI_sub, iI_mul, iI_neg, q_lt, q_le, q_eq, qz0, qz1, qz2, qz3, if_pos, if_neg, reduceIte, e1, e4]
      · by_cases c : j = i
        · subst c
          rw [gs_up_eq]
        · rw [ma_cell_ne _ _ _ _ _ _ (by omega)]
          exact h1 j (by omega)
      · rw [ma_row_ne _ _ _ _ _ hx]
        exact h2 x hx)
    (by
      rintro f k ⟨h1, h2⟩
      refine ⟨_, ?_, k, h1, h2, rfl⟩
      simp only [l_X12_text_239]
      simp (disch := omega) only [qn0, qn1, qn2, qn3, qn4, qn5, qn6, qn7, qn8, qn9, qn10, qn11, qn12, qn13, qn14, qn15, qn16, qn17, qn18, qn24, qn30, qn31, qn32, qn33, qn36, qn38, qn40, qn41, qn42, qn43, qn45, qn47, qn48, qn49, qn50, qn51, qn52, qn53, qn57, qn58, qn59, qn60, qn61, qn62, qn63, qn91, qn93, qn97, qn99, qn100, qn103, qn104, qn112, qn113, qn115, qn116, qn118, qn119, qn121, qn124, qn173, qn177, qn240, qn255, qn295, qn352, qn353, qn533, qn999, qn1000, qn1023, qn6561, qn10000, qn20787, qn1000000, qn252645135, qn858993459, qn1000000000, qn1431655765, q_s1, q_s2, q_s3, q_s4, q_s5, iI_add, iI_sub, iI_mul, iI_neg, q_lt, q_le, q_eq, qz0, qz1, qz2, qz3, if_pos, if_neg, reduceIte])
  exact ⟨_, N1, e, h1, h2⟩
end TextT2
