/-! a TOWN read by the model -/
def tw_Y (M N : gs_M) : Prop := ∀ r y, r ≠ 153 → r ≠ 155 → ¬ (r = 147 ∧ (y = 25 ∨ y = 27)) → N r y = M r y
def tw_M (M N : gs_M) (q : tw_T) : Prop := N 147 25 = iI (q.2.2.1 : Nat) ∧ N 147 27 = iI (q.2.1 : Nat) ∧ (∀ k, k < 3 → N 153 k = iI (q.2.2.2.1 k)) ∧ (∀ k, k < 5 * q.2.2.1 → N 155 k = iI (q.2.2.2.2 k)) ∧ tw_Y M N
section Town3
variable {b : Nat → Int} {n a q0 w0 : Nat} {t : Int} {M N : gs_M}
theorem tw_Y.K (K : md_K q0 w0 b n M) (h : tw_Y M N) : md_K q0 w0 b n N := by
  obtain ⟨h0, h1, h2, h3, h4⟩ := K
  refine ⟨h0, ?_, ?_, ?_, fun i hi => ?_⟩
  · rw [h _ _ (by decide) (by decide) (by decide)]; exact h1
  · rw [h _ _ (by decide) (by decide) (by decide)]; exact h2
  · rw [h _ _ (by decide) (by decide) (by decide)]; exact h3
  · rw [h _ _ (by omega) (by omega) (by omega)]; exact h4 i hi
theorem m_clause (w : tp_w b n) (K : md_K q0 w0 b n M) {q : tw_T} (B : tw_b n q) (C : tw_M M N q) : ∃ N', tw_Y M N' ∧ (∀ e, tw_cl b n q = .inl e → (∃ a', f_X12_readClause (md_m N q.1 (-1)) = some (md_m N' a' e)) ∨ (f_X12_readClause (md_m N q.1 (-1)) = some (md_m N' e (-1)) ∧ tp_s b n e = e ∧ tp_l b n e ≠ 59 ∧ tp_l b n e ≠ -1)) ∧ ∀ x, tw_cl b n q = .inr x → f_X12_readClause (md_m N q.1 (-1)) = some (md_m N' x.1 (-1)) ∧ tw_M M N' x := by
  have w1 := w.1
  obtain ⟨a, rt, p, R, D⟩ := q
  obtain ⟨h1, h2, h3, h4, h5, h6⟩ := B
  obtain ⟨g1, g2, g3, g4, g5⟩ := C
  simp only at h1 h2 h3 h4 h5 h6 g1 g2 g3 g4 g5
  have KN := g5.K K
  have hs := tp_s_b (b := b) h1
  have hl := tp_l_b (a := a) w
  have e1 := m_look (t := -1) w KN h1
  have r62 : md_m N (tp_s b n a) (-1) 147 25 = iI (p : Nat) := g1
  have r63 : md_m N (tp_s b n a) (-1) 147 27 = iI (rt : Nat) := g2
  have ef := m_fails (M := N) (a := tp_s b n a)
  have u1 : gs_up (md_m N (tp_s b n a) (-1)) 147 10 (iI ((tp_s b n a : Nat) + 1)) = md_m N (tp_s b n a + 1) (-1) := md_u10 (tp_s b n a + 1)
  by_cases c : tp_l b n a = 115 ∧ rt = 0
  · obtain ⟨c, rfl⟩ := c
    have e3 : gs_up (md_m N (tp_s b n a + 1) (-1)) 147 27 (iI 1) = md_m (gs_up N 147 27 (iI 1)) (tp_s b n a + 1) (-1) := md_ur _ (Or.inr ⟨by decide, by decide⟩)
    have K1 : md_K q0 w0 b n (gs_up N 147 27 (iI 1)) := KN.up _ ⟨by decide, by decide, Or.inr ⟨by decide, by decide, by decide⟩⟩
    have e5 := m_items0 w it_s0_b K1 (o := 0) (by decide) (a := tp_s b n a + 1) (by omega)
    have e5' : it_end b n (f_X12_readItems_2 (md_m (gs_up N 147 27 (iI 1)) (tp_s b n a + 1) (-1)) (iI 115) (iI 0)) (gs_up N 147 27 (iI 1)) 153 0 3 (tw_i0 b n (tp_s b n a + 1)) := e5
    have hX : ∀ g, tw_Y M (it_M (gs_up N 147 27 (iI 1)) 153 0 3 g) := fun g r y x1 x2 x3 => by rw [it_M_r x1, ma_cell_ne _ _ _ _ _ _ (by omega), g5 r y x1 x2 x3]
    match hR : tw_i0 b n (tp_s b n a + 1), e5' with
    | .inl x, e5' =>
      have e : tw_cl b n (a, 0, p, R, D) = .inl x := by simp only [tw_cl, c, true_and, if_true, hR]
      obtain ⟨g', ⟨a', k⟩ | ⟨k, k1, k2, k3, k4⟩⟩ := e5'
      · refine ⟨it_M (gs_up N 147 27 (iI 1)) 153 0 3 g', hX g', fun y h => Or.inl ⟨a', ?_⟩, fun y h => ?_⟩
        · rw [e] at h
          cases h
          unfold f_X12_readClause
          simp (disch := omega) only [qn0, qn1, qn2, qn3, qn4, qn5, qn6, qn7, qn8, qn9, qn10, qn11, qn12, qn13, qn14, qn15, qn16, qn17, qn18, qn24, qn30, qn31, qn32, qn33, qn36, qn38, qn40, qn41, qn42, qn43, qn45, qn47, qn48, qn49, qn50, qn51, qn52, qn53, qn57, qn58, qn59, qn60, qn61, qn62, qn63, qn91, qn93, qn97, qn99, qn100, qn103, qn104, qn112, qn113, qn115, qn116, qn118, qn119, qn121, qn124, qn173, qn177, qn240, qn255, qn295, qn352, qn353, qn533, qn999, qn1000, qn1023, qn6561, qn10000, qn20787, qn1000000, qn252645135, qn858993459, qn1000000000, qn1431655765, q_s1, q_s2, q_s3, q_s4, q_s5, iI_add, iI_sub, iI_mul, iI_neg, q_lt, q_le, q_eq, qz0, qz1, qz2, qz3, if_pos, if_neg, reduceIte, e1, r62, r63, c, md_m10, u1, e3, k]
        · rw [e] at h
          cases h
      · refine ⟨it_M (gs_up N 147 27 (iI 1)) 153 0 3 g', hX g', fun y h => Or.inr ?_, fun y h => ?_⟩
        · rw [e] at h
          cases h
          refine ⟨?_, k1, k2, k3⟩
          unfold f_X12_readClause
          simp (disch := omega) only [qn0, qn1, qn2, qn3, qn4, qn5, qn6, qn7, qn8, qn9, qn10, qn11, qn12, qn13, qn14, qn15, qn16, qn17, qn18, qn24, qn30, qn31, qn32, qn33, qn36, qn38, qn40, qn41, qn42, qn43, qn45, qn47, qn48, qn49, qn50, qn51, qn52, qn53, qn57, qn58, qn59, qn60, qn61, qn62, qn63, qn91, qn93, qn97, qn99, qn100, qn103, qn104, qn112, qn113, qn115, qn116, qn118, qn119, qn121, qn124, qn173, qn177, qn240, qn255, qn295, qn352, qn353, qn533, qn999, qn1000, qn1023, qn6561, qn10000, qn20787, qn1000000, qn252645135, qn858993459, qn1000000000, qn1431655765, q_s1, q_s2, q_s3, q_s4, q_s5, iI_add, iI_sub, iI_mul, iI_neg, q_lt, q_le, q_eq, qz0, qz1, qz2, qz3, if_pos, if_neg, reduceIte, e1, r62, r63, c, md_m10, u1, e3, k]
        · rw [e] at h
          cases h
    | .inr x, e5' =>
      have e : tw_cl b n (a, 0, p, R, D) = .inr (x.1, 1, p, x.2, D) := by simp only [tw_cl, c, true_and, if_true, hR]
      have k : f_X12_readItems_2 (md_m (gs_up N 147 27 (iI 1)) (tp_s b n a + 1) (-1)) (iI 115) (iI 0) = some (md_m (it_M (gs_up N 147 27 (iI 1)) 153 0 3 x.2) x.1 (-1)) := e5'
      refine ⟨it_M (gs_up N 147 27 (iI 1)) 153 0 3 x.2, hX x.2, fun y h => ?_, fun y h => ?_⟩
      · rw [e] at h
        cases h
      · rw [e] at h
        cases h
        refine ⟨?_, ?_, ?_, fun k hk => ?_, fun k hk => ?_, hX x.2⟩
        · unfold f_X12_readClause
          simp (disch := omega) only [qn0, qn1, qn2, qn3, qn4, qn5, qn6, qn7, qn8, qn9, qn10, qn11, qn12, qn13, qn14, qn15, qn16, qn17, qn18, qn24, qn30, qn31, qn32, qn33, qn36, qn38, qn40, qn41, qn42, qn43, qn45, qn47, qn48, qn49, qn50, qn51, qn52, qn53, qn57, qn58, qn59, qn60, qn61, qn62, qn63, qn91, qn93, qn97, qn99, qn100, qn103, qn104, qn112, qn113, qn115, qn116, qn118, qn119, qn121, qn124, qn173, qn177, qn240, qn255, qn295, qn352, qn353, qn533, qn999, qn1000, qn1023, qn6561, qn10000, qn20787, qn1000000, qn252645135, qn858993459, qn1000000000, qn1431655765, q_s1, q_s2, q_s3, q_s4, q_s5, iI_add, iI_sub, iI_mul, iI_neg, q_lt, q_le, q_eq, qz0, qz1, qz2, qz3, if_pos, if_neg, reduceIte, e1, r62, r63, c, md_m10, u1, e3, k]
        · rw [it_M_r (by decide), ma_cell_ne _ _ _ _ _ _ (by decide)]
          exact g1
        · rw [it_M_r (by decide), gs_up_eq]
          rfl
        · have := it_M_i (M := gs_up N 147 27 (iI 1)) (r := 153) (o := 0) (l := 3) (g := x.2) hk
          rw [Nat.zero_add] at this
          exact this
        · rw [it_M_r (by decide), ma_row_ne _ _ _ _ _ (by decide)]
          exact g4 k hk
  · by_cases c2 : tp_l b n a = 112 ∧ p < 8
    · have hp := c2.2
      have r62b : md_m N (tp_s b n a + 1) (-1) 147 25 = iI (p : Nat) := g1
      have e3 : gs_up (md_m N (tp_s b n a + 1) (-1)) 147 25 (iI ((p : Int) + 1)) = md_m (gs_up N 147 25 (iI ((p : Int) + 1))) (tp_s b n a + 1) (-1) := md_ur _ (Or.inr ⟨by decide, by decide⟩)
      have r62c : md_m (gs_up N 147 25 (iI ((p : Int) + 1))) (tp_s b n a + 1) (-1) 147 25 = iI ((p : Int) + 1) := by
        rw [md_mc (by decide) (by decide), gs_up_eq]
      have K1 : md_K q0 w0 b n (gs_up N 147 25 (iI ((p : Int) + 1))) := KN.up _ ⟨by decide, by decide, Or.inr ⟨by decide, by decide, by decide⟩⟩
      have e5 := m_items1 w it_s1_b K1 (o := 5 * p) (by omega) (a := tp_s b n a + 1) (by omega)
      have ho : iI ((5 * p : Nat) : Int) = iI (5 * ((p : Int) + 1 - 1)) := by congr 1; omega
      rw [ho] at e5
      have e5' : it_end b n (f_X12_readItems (md_m (gs_up N 147 25 (iI ((p : Int) + 1))) (tp_s b n a + 1) (-1)) (iI 112) (iI (5 * ((p : Int) + 1 - 1)))) (gs_up N 147 25 (iI ((p : Int) + 1))) 155 (5 * p) 5 (tw_i1 b n (tp_s b n a + 1)) := e5
      have hX : ∀ g, tw_Y M (it_M (gs_up N 147 25 (iI ((p : Int) + 1))) 155 (5 * p) 5 g) := fun g r y x1 x2 x3 => by rw [it_M_r x2, ma_cell_ne _ _ _ _ _ _ (by omega), g5 r y x1 x2 x3]
      obtain ⟨c2, -⟩ := c2
      match hR : tw_i1 b n (tp_s b n a + 1), e5' with
      | .inl x, e5' =>
        have e : tw_cl b n (a, rt, p, R, D) = .inl x := by simp only [tw_cl, if_neg c, if_pos (And.intro c2 hp), hR]
        obtain ⟨g', ⟨a', k⟩ | ⟨k, k1, k2, k3, k4⟩⟩ := e5'
        · refine ⟨it_M (gs_up N 147 25 (iI ((p : Int) + 1))) 155 (5 * p) 5 g', hX g', fun y h => Or.inl ⟨a', ?_⟩, fun y h => ?_⟩
          · rw [e] at h
            cases h
            unfold f_X12_readClause
            simp (disch := omega) only [qn0, qn1, qn2, qn3, qn4, qn5, qn6, qn7, qn8, qn9, qn10, qn11, qn12, qn13, qn14, qn15, qn16, qn17, qn18, qn24, qn30, qn31, qn32, qn33, qn36, qn38, qn40, qn41, qn42, qn43, qn45, qn47, qn48, qn49, qn50, qn51, qn52, qn53, qn57, qn58, qn59, qn60, qn61, qn62, qn63, qn91, qn93, qn97, qn99, qn100, qn103, qn104, qn112, qn113, qn115, qn116, qn118, qn119, qn121, qn124, qn173, qn177, qn240, qn255, qn295, qn352, qn353, qn533, qn999, qn1000, qn1023, qn6561, qn10000, qn20787, qn1000000, qn252645135, qn858993459, qn1000000000, qn1431655765, q_s1, q_s2, q_s3, q_s4, q_s5, iI_add, iI_sub, iI_mul, iI_neg, q_lt, q_le, q_eq, qz0, qz1, qz2, qz3, if_pos, if_neg, reduceIte, e1, r62, r62b, r62c, c2, md_m10, u1, e3, k]
          · rw [e] at h
            cases h
        · refine ⟨it_M (gs_up N 147 25 (iI ((p : Int) + 1))) 155 (5 * p) 5 g', hX g', fun y h => Or.inr ?_, fun y h => ?_⟩
          · rw [e] at h
            cases h
            refine ⟨?_, k1, k2, k3⟩
            unfold f_X12_readClause
            simp (disch := omega) only [qn0, qn1, qn2, qn3, qn4, qn5, qn6, qn7, qn8, qn9, qn10, qn11, qn12, qn13, qn14, qn15, qn16, qn17, qn18, qn24, qn30, qn31, qn32, qn33, qn36, qn38, qn40, qn41, qn42, qn43, qn45, qn47, qn48, qn49, qn50, qn51, qn52, qn53, qn57, qn58, qn59, qn60, qn61, qn62, qn63, qn91, qn93, qn97, qn99, qn100, qn103, qn104, qn112, qn113, qn115, qn116, qn118, qn119, qn121, qn124, qn173, qn177, qn240, qn255, qn295, qn352, qn353, qn533, qn999, qn1000, qn1023, qn6561, qn10000, qn20787, qn1000000, qn252645135, qn858993459, qn1000000000, qn1431655765, q_s1, q_s2, q_s3, q_s4, q_s5, iI_add, iI_sub, iI_mul, iI_neg, q_lt, q_le, q_eq, qz0, qz1, qz2, qz3, if_pos, if_neg, reduceIte, e1, r62, r62b, r62c, c2, md_m10, u1, e3, k]
          · rw [e] at h
            cases h
      | .inr x, e5' =>
        have e : tw_cl b n (a, rt, p, R, D) = .inr (x.1, rt, p + 1, R, tw_D D p x.2) := by simp only [tw_cl, if_neg c, if_pos (And.intro c2 hp), hR]
        have k : f_X12_readItems (md_m (gs_up N 147 25 (iI ((p : Int) + 1))) (tp_s b n a + 1) (-1)) (iI 112) (iI (5 * ((p : Int) + 1 - 1))) = some (md_m (it_M (gs_up N 147 25 (iI ((p : Int) + 1))) 155 (5 * p) 5 x.2) x.1 (-1)) := e5'
        refine ⟨it_M (gs_up N 147 25 (iI ((p : Int) + 1))) 155 (5 * p) 5 x.2, hX x.2, fun y h => ?_, fun y h => ?_⟩
        · rw [e] at h
          cases h
        · rw [e] at h
          cases h
          refine ⟨?_, ?_, ?_, fun k hk => ?_, fun k hk => ?_, hX x.2⟩
          · unfold f_X12_readClause
            simp (disch := omega) only [qn0, qn1, qn2, qn3, qn4, qn5, qn6, qn7, qn8, qn9, qn10, qn11, qn12, qn13, qn14, qn15, qn16, qn17, qn18, qn24, qn30, qn31, qn32, qn33, qn36, qn38, qn40, qn41, qn42, qn43, qn45, qn47, qn48, qn49, qn50, qn51, qn52, qn53, qn57, qn58, qn59, qn60, qn61, qn62, qn63, qn91, qn93, qn97, qn99, qn100, qn103, qn104, qn112, qn113, qn115, qn116, qn118, qn119, qn121, qn124, qn173, qn177, qn240, qn255, qn295, qn352, qn353, qn533, qn999, qn1000, qn1023, qn6561, qn10000, qn20787, qn1000000, qn252645135, qn858993459, qn1000000000, qn1431655765, q_s1, q_s2, q_s3, q_s4, q_s5, iI_add, iI_sub, iI_mul, iI_neg, q_lt, q_le, q_eq, qz0, qz1, qz2, qz3, if_pos, if_neg, reduceIte, e1, r62, r62b, r62c, c2, md_m10, u1, e3, k]
          · rw [it_M_r (by decide), gs_up_eq]
            rfl
          · rw [it_M_r (by decide), ma_cell_ne _ _ _ _ _ _ (by decide)]
            exact g2
          · rw [it_M_r (by decide), ma_row_ne _ _ _ _ _ (by decide)]
            exact g3 k hk
          · have hk' : k < 5 * (p + 1) := hk
            show _ = iI (tw_D D p x.2 k)
            by_cases ck : k < 5 * p
            · rw [it_M_o (Or.inl ck), ma_row_ne _ _ _ _ _ (by decide), tw_D_o ck]
              exact g4 k ck
            · obtain ⟨m, rfl⟩ : ∃ m, k = 5 * p + m := ⟨k - 5 * p, by omega⟩
              rw [it_M_i (by omega), tw_D_i (by omega)]
    · have e : tw_cl b n (a, rt, p, R, D) = .inl (tp_s b n a) := by simp only [tw_cl, if_neg c, if_neg c2]
      refine ⟨N, g5, fun y h => Or.inl ⟨tp_s b n a, ?_⟩, fun y h => ?_⟩
      · rw [e] at h
        cases h
        unfold f_X12_readClause
        by_cases c3 : tp_l b n a = 115
        · have c4 : rt ≠ 0 := fun h => c ⟨c3, h⟩
          simp (disch := omega) only [qn0, qn1, qn2, qn3, qn4, qn5, qn6, qn7, qn8, qn9, qn10, qn11, qn12, qn13, qn14, qn15, qn16, qn17, qn18, qn24, qn30, qn31, qn32, qn33, qn36, qn38, qn40, qn41, qn42, qn43, qn45, qn47, qn48, qn49, qn50, qn51, qn52, qn53, qn57, qn58, qn59, qn60, qn61, qn62, qn63, qn91, qn93, qn97, qn99, qn100, qn103, qn104, qn112, qn113, qn115, qn116, qn118, qn119, qn121, qn124, qn173, qn177, qn240, qn255, qn295, qn352, qn353, qn533, qn999, qn1000, qn1023, qn6561, qn10000, qn20787, qn1000000, qn252645135, qn858993459, qn1000000000, qn1431655765, q_s1, q_s2, q_s3, q_s4, q_s5, iI_add, iI_sub, iI_mul, iI_neg, q_lt, q_le, q_eq, qz0, qz1, qz2, qz3, if_pos, if_neg, reduceIte, e1, r62, r63, c3, ef]
        · by_cases c4 : tp_l b n a = 112
          · have c5 : ¬ p < 8 := fun h => c2 ⟨c4, h⟩
            simp (disch := omega) only [qn0, qn1, qn2, qn3, qn4, qn5, qn6, qn7, qn8, qn9, qn10, qn11, qn12, qn13, qn14, qn15, qn16, qn17, qn18, qn24, qn30, qn31, qn32, qn33, qn36, qn38, qn40, qn41, qn42, qn43, qn45, qn47, qn48, qn49, qn50, qn51, qn52, qn53, qn57, qn58, qn59, qn60, qn61, qn62, qn63, qn91, qn93, qn97, qn99, qn100, qn103, qn104, qn112, qn113, qn115, qn116, qn118, qn119, qn121, qn124, qn173, qn177, qn240, qn255, qn295, qn352, qn353, qn533, qn999, qn1000, qn1023, qn6561, qn10000, qn20787, qn1000000, qn252645135, qn858993459, qn1000000000, qn1431655765, q_s1, q_s2, q_s3, q_s4, q_s5, iI_add, iI_sub, iI_mul, iI_neg, q_lt, q_le, q_eq, qz0, qz1, qz2, qz3, if_pos, if_neg, reduceIte, e1, r62, r63, c4, ef]
          · simp (disch := omega) only [qn0, qn1, qn2, qn3, qn4, qn5, qn6, qn7, qn8, qn9, qn10, qn11, qn12, qn13, qn14, qn15, qn16, qn17, qn18, qn24, qn30, qn31, qn32, qn33, qn36, qn38, qn40, qn41, qn42, qn43, qn45, qn47, qn48, qn49, qn50, qn51, qn52, qn53, qn57, qn58, qn59, qn60, qn61, qn62, qn63, qn91, qn93, qn97, qn99, qn100, qn103, qn104, qn112, qn113, qn115, qn116, qn118, qn119, qn121, qn124, qn173, qn177, qn240, qn255, qn295, qn352, qn353, qn533, qn999, qn1000, qn1023, qn6561, qn10000, qn20787, qn1000000, qn252645135, qn858993459, qn1000000000, qn1431655765, q_s1, q_s2, q_s3, q_s4, q_s5, iI_add, iI_sub, iI_mul, iI_neg, q_lt, q_le, q_eq, qz0, qz1, qz2, qz3, if_pos, if_neg, reduceIte, e1, r62, r63, ef]
      · rw [e] at h
        cases h
theorem m_rl (w : tp_w b n) (K : md_K q0 w0 b n M) : ∀ (d f : Nat) (q : tw_T) (N : gs_M), tw_b n q → tw_M M N q → n < q.1 + d → d < f → ∃ N', tw_Y M N' ∧
    (∀ e, tw_go b n d q = .inl e → e ≤ n ∧ ((∃ j a', l_X12_readTown_50 f (iI 1) (md_m N q.1 (-1)) = some (j, md_m N' a' e)) ∨ ((∃ j, l_X12_readTown_50 f (iI 1) (md_m N q.1 (-1)) = some (j, md_m N' e (-1))) ∧ tp_s b n e = e ∧ tp_l b n e ≠ -1))) ∧
    (∀ y, tw_go b n d q = .inr y → (∃ j, l_X12_readTown_50 f (iI 1) (md_m N q.1 (-1)) = some (j, md_m N' y.1 (-1))) ∧ tw_M M N' y ∧ tp_s b n y.1 = y.1 ∧ tp_l b n y.1 = -1) := by
  have w1 := w.1
  intro d
  induction d with
  | zero =>
    intro f q N B C h1
    have := B.1
    omega
  | succ d ih =>
    intro f q N B C h1 h2
    obtain ⟨f, rfl⟩ : ∃ k, f = k + 1 + 1 := ⟨f - 2, by omega⟩
    have hcb := tw_cl_b w B
    obtain ⟨N1, hX, k1, k2⟩ := m_clause w K B C
    have es : ∀ M1, l_X12_readTown_50 (f + 1) (iI 0) M1 = some (iI 0, M1) := fun M1 => by
      simp only [l_X12_readTown_50]
      simp (disch := omega) only [qn0, qn1, qn2, qn3, qn4, qn5, qn6, qn7, qn8, qn9, qn10, qn11, qn12, qn13, qn14, qn15, qn16, qn17, qn18, qn24, qn30, qn31, qn32, qn33, qn36, qn38, qn40, qn41, qn42, qn43, qn45, qn47, qn48, qn49, qn50, qn51, qn52, qn53, qn57, qn58, qn59, qn60, qn61, qn62, qn63, qn91, qn93, qn97, qn99, qn100, qn103, qn104, qn112, qn113, qn115, qn116, qn118, qn119, qn121, qn124, qn173, qn177, qn240, qn255, qn295, qn352, qn353, qn533, qn999, qn1000, qn1023, qn6561, qn10000, qn20787, qn1000000, qn252645135, qn858993459, qn1000000000, qn1431655765, q_s1, q_s2, q_s3, q_s4, q_s5, iI_add, iI_sub, iI_mul, iI_neg, q_lt, q_le, q_eq, qz0, qz1, qz2, qz3, if_pos, if_neg, reduceIte]
    rw [tw_go_s]
    match hR : tw_cl b n q with
    | .inl u =>
      have hu := hcb.1 u hR
      refine ⟨N1, hX, fun e h => ?_, fun y h => (by cases h)⟩
      cases h
      refine ⟨hu, ?_⟩
      rcases k1 u hR with ⟨a', k3⟩ | ⟨k3, k4, k5, k6⟩
      · left
        refine ⟨iI 0, a', ?_⟩
        rw [l_X12_readTown_50]
        simp (disch := omega) only [qn0, qn1, qn2, qn3, qn4, qn5, qn6, qn7, qn8, qn9, qn10, qn11, qn12, qn13, qn14, qn15, qn16, qn17, qn18, qn24, qn30, qn31, qn32, qn33, qn36, qn38, qn40, qn41, qn42, qn43, qn45, qn47, qn48, qn49, qn50, qn51, qn52, qn53, qn57, qn58, qn59, qn60, qn61, qn62, qn63, qn91, qn93, qn97, qn99, qn100, qn103, qn104, qn112, qn113, qn115, qn116, qn118, qn119, qn121, qn124, qn173, qn177, qn240, qn255, qn295, qn352, qn353, qn533, qn999, qn1000, qn1023, qn6561, qn10000, qn20787, qn1000000, qn252645135, qn858993459, qn1000000000, qn1431655765, q_s1, q_s2, q_s3, q_s4, q_s5, iI_add, iI_sub, iI_mul, iI_neg, q_lt, q_le, q_eq, qz0, qz1, qz2, qz3, if_pos, if_neg, reduceIte, md_m11, k3, es]
      · right
        refine ⟨⟨iI 0, ?_⟩, k4, k6⟩
        have e4 := m_look (t := -1) w (hX.K K) hu
        rw [k4] at e4
        have hl := tp_l_b (a := u) w
        rw [l_X12_readTown_50]
        simp (disch := omega) only [qn0, qn1, qn2, qn3, qn4, qn5, qn6, qn7, qn8, qn9, qn10, qn11, qn12, qn13, qn14, qn15, qn16, qn17, qn18, qn24, qn30, qn31, qn32, qn33, qn36, qn38, qn40, qn41, qn42, qn43, qn45, qn47, qn48, qn49, qn50, qn51, qn52, qn53, qn57, qn58, qn59, qn60, qn61, qn62, qn63, qn91, qn93, qn97, qn99, qn100, qn103, qn104, qn112, qn113, qn115, qn116, qn118, qn119, qn121, qn124, qn173, qn177, qn240, qn255, qn295, qn352, qn353, qn533, qn999, qn1000, qn1023, qn6561, qn10000, qn20787, qn1000000, qn252645135, qn858993459, qn1000000000, qn1431655765, q_s1, q_s2, q_s3, q_s4, q_s5, iI_add, iI_sub, iI_mul, iI_neg, q_lt, q_le, q_eq, qz0, qz1, qz2, qz3, if_pos, if_neg, reduceIte, md_m11, k3, e4, es]
    | .inr x =>
      obtain ⟨k3, C1⟩ := k2 x hR
      obtain ⟨hx1, B1⟩ := hcb.2 x hR
      have e4 := m_look (t := -1) w (hX.K K) B1.1
      have hs := tp_s_b (b := b) B1.1
      have hl := tp_l_b (a := x.1) w
      show ∃ N', tw_Y M N' ∧ (∀ e, tw_nx b n d x = .inl e → _) ∧ (∀ y, tw_nx b n d x = .inr y → _)
      by_cases c : tp_l b n x.1 = 59
      · have en : tw_nx b n d x = tw_go b n d (tp_s b n x.1 + 1, x.2) := if_pos c
        rw [en]
        have u1 : gs_up (md_m N1 (tp_s b n x.1) (-1)) 147 10 (iI ((tp_s b n x.1 : Nat) + 1)) = md_m N1 (tp_s b n x.1 + 1) (-1) := md_u10 (tp_s b n x.1 + 1)
        obtain ⟨N2, j1, j2, j3⟩ := ih (f + 1) (tp_s b n x.1 + 1, x.2) N1 (tw_b_a B1 (by omega)) C1 (by show n < tp_s b n x.1 + 1 + d; omega) (by omega)
        have e5 : l_X12_readTown_50 (f + 1 + 1) (iI 1) (md_m N q.1 (-1)) = l_X12_readTown_50 (f + 1) (iI 1) (md_m N1 (tp_s b n x.1 + 1) (-1)) := by
          rw [l_X12_readTown_50]
          simp (disch := omega) only [qn0, qn1, qn2, qn3, qn4, qn5, qn6, qn7, qn8, qn9, qn10, qn11, qn12, qn13, qn14, qn15, qn16, qn17, qn18, qn24, qn30, qn31, qn32, qn33, qn36, qn38, qn40, qn41, qn42, qn43, qn45, qn47, qn48, qn49, qn50, qn51, qn52, qn53, qn57, qn58, qn59, qn60, qn61, qn62, qn63, qn91, qn93, qn97, qn99, qn100, qn103, qn104, qn112, qn113, qn115, qn116, qn118, qn119, qn121, qn124, qn173, qn177, qn240, qn255, qn295, qn352, qn353, qn533, qn999, qn1000, qn1023, qn6561, qn10000, qn20787, qn1000000, qn252645135, qn858993459, qn1000000000, qn1431655765, q_s1, q_s2, q_s3, q_s4, q_s5, iI_add, iI_sub, iI_mul, iI_neg, q_lt, q_le, q_eq, qz0, qz1, qz2, qz3, if_pos, if_neg, reduceIte, md_m11, k3, e4, c, md_m10, u1]
        rw [e5]
        exact ⟨N2, j1, j2, j3⟩
      · have e5 : l_X12_readTown_50 (f + 1 + 1) (iI 1) (md_m N q.1 (-1)) = some (iI 0, md_m N1 (tp_s b n x.1) (-1)) := by
          rw [l_X12_readTown_50]
          simp (disch := omega) only [qn0, qn1, qn2, qn3, qn4, qn5, qn6, qn7, qn8, qn9, qn10, qn11, qn12, qn13, qn14, qn15, qn16, qn17, qn18, qn24, qn30, qn31, qn32, qn33, qn36, qn38, qn40, qn41, qn42, qn43, qn45, qn47, qn48, qn49, qn50, qn51, qn52, qn53, qn57, qn58, qn59, qn60, qn61, qn62, qn63, qn91, qn93, qn97, qn99, qn100, qn103, qn104, qn112, qn113, qn115, qn116, qn118, qn119, qn121, qn124, qn173, qn177, qn240, qn255, qn295, qn352, qn353, qn533, qn999, qn1000, qn1023, qn6561, qn10000, qn20787, qn1000000, qn252645135, qn858993459, qn1000000000, qn1431655765, q_s1, q_s2, q_s3, q_s4, q_s5, iI_add, iI_sub, iI_mul, iI_neg, q_lt, q_le, q_eq, qz0, qz1, qz2, qz3, if_pos, if_neg, reduceIte, md_m11, k3, e4, es]
        refine ⟨N1, hX, fun e h => ?_, fun y h => ?_⟩
        · by_cases c2 : tp_l b n x.1 = -1
          · rw [tw_nx, if_neg c, if_pos c2] at h
            cases h
          · rw [tw_nx, if_neg c, if_neg c2] at h
            cases h
            exact ⟨hs.2, Or.inr ⟨⟨_, e5⟩, tp_ss B1.1, by rw [tp_ll B1.1]; exact c2⟩⟩
        · by_cases c2 : tp_l b n x.1 = -1
          · rw [tw_nx, if_neg c, if_pos c2] at h
            cases h
            exact ⟨⟨_, e5⟩, C1, tp_ss B1.1, by rw [tp_ll B1.1]; exact c2⟩
          · rw [tw_nx, if_neg c, if_neg c2] at h
            cases h
theorem m_cpl {p : Nat} {D : Nat → Int} (hp : N 147 25 = iI (p : Nat)) (h8 : ∀ k, k < 5 * p → N 155 k = iI (D k)) (hD : ∀ i, i < p → 0 ≤ D (5 * i + 4) ∧ D (5 * i + 4) ≤ 8) (hp8 : p ≤ 8) : ∀ d i f : Nat, i + d = p → d < f → l_X12_isWhole_2 N f (iI i) = some (if p = 0 ∨ tw_cp p D d i = false then iI 0 else iI 1) := by
  intro d
  induction d with
  | zero =>
    intro i f hi hf
    obtain ⟨f, rfl⟩ : ∃ k, f = k + 1 := ⟨f - 1, by omega⟩
    have e : tw_cp p D 0 i = true := rfl
    simp only [l_X12_isWhole_2]
    by_cases c : p = 0
    · rw [if_pos (Or.inl c)]
      simp (disch := omega) only [qn0, qn1, qn2, qn3, qn4, qn5, qn6, qn7, qn8, qn9, qn10, qn11, qn12, qn13, qn14, qn15, qn16, qn17, qn18, qn24, qn30, qn31, qn32, qn33, qn36, qn38, qn40, qn41, qn42, qn43, qn45, qn47, qn48, qn49, qn50, qn51, qn52, qn53, qn57, qn58, qn59, qn60, qn61, qn62, qn63, qn91, qn93, qn97, qn99, qn100, qn103, qn104, qn112, qn113, qn115, qn116, qn118, qn119, qn121, qn124, qn173, qn177, qn240, qn255, qn295, qn352, qn353, qn533, qn999, qn1000, qn1023, qn6561, qn10000, qn20787, qn1000000, qn252645135, qn858993459, qn1000000000, qn1431655765, q_s1, q_s2, q_s3, q_s4, q_s5, iI_add, iI_sub, iI_mul, iI_neg, q_lt, q_le, q_eq, qz0, qz1, qz2, qz3, if_pos, if_neg, reduceIte, hp]
    · rw [if_neg (show ¬ (p = 0 ∨ tw_cp p D 0 i = false) from fun h => h.elim c (fun h => by rw [e] at h; cases h))]
      simp (disch := omega) only [qn0, qn1, qn2, qn3, qn4, qn5, qn6, qn7, qn8, qn9, qn10, qn11, qn12, qn13, qn14, qn15, qn16, qn17, qn18, qn24, qn30, qn31, qn32, qn33, qn36, qn38, qn40, qn41, qn42, qn43, qn45, qn47, qn48, qn49, qn50, qn51, qn52, qn53, qn57, qn58, qn59, qn60, qn61, qn62, qn63, qn91, qn93, qn97, qn99, qn100, qn103, qn104, qn112, qn113, qn115, qn116, qn118, qn119, qn121, qn124, qn173, qn177, qn240, qn255, qn295, qn352, qn353, qn533, qn999, qn1000, qn1023, qn6561, qn10000, qn20787, qn1000000, qn252645135, qn858993459, qn1000000000, qn1431655765, q_s1, q_s2, q_s3, q_s4, q_s5, iI_add, iI_sub, iI_mul, iI_neg, q_lt, q_le, q_eq, qz0, qz1, qz2, qz3, if_pos, if_neg, reduceIte, hp]
  | succ d ih =>
    intro i f hi hf
    obtain ⟨f, rfl⟩ : ∃ k, f = k + 1 := ⟨f - 1, by omega⟩
    have h := hD i (by omega)
    have e1 : gs_rd N 155 40 (iI (5 * (i : Int) + 4)) = some (iI (D (5 * i + 4))) := by
      rw [q_rdn (5 * i + 4) (by omega) (by omega) (by decide), h8 _ (by omega)]
    have e2 := ih (i + 1) f (by omega) (by omega)
    have e2' : l_X12_isWhole_2 N f (iI ((i : Int) + 1)) = some (if p = 0 ∨ tw_cp p D d (i + 1) = false then iI 0 else iI 1) := e2
    by_cases c : D (5 * i + 4) = 8
    · rw [tw_cp_8 c]
      rw [c] at e1
      simp only [l_X12_isWhole_2]
      simp (disch := omega) only [qn0, qn1, qn2, qn3, qn4, qn5, qn6, qn7, qn8, qn9, qn10, qn11, qn12, qn13, qn14, qn15, qn16, qn17, qn18, qn24, qn30, qn31, qn32, qn33, qn36, qn38, qn40, qn41, qn42, qn43, qn45, qn47, qn48, qn49, qn50, qn51, qn52, qn53, qn57, qn58, qn59, qn60, qn61, qn62, qn63, qn91, qn93, qn97, qn99, qn100, qn103, qn104, qn112, qn113, qn115, qn116, qn118, qn119, qn121, qn124, qn173, qn177, qn240, qn255, qn295, qn352, qn353, qn533, qn999, qn1000, qn1023, qn6561, qn10000, qn20787, qn1000000, qn252645135, qn858993459, qn1000000000, qn1431655765, q_s1, q_s2, q_s3, q_s4, q_s5, iI_add, iI_sub, iI_mul, iI_neg, q_lt, q_le, q_eq, qz0, qz1, qz2, qz3, if_pos, if_neg, reduceIte, hp, e1, e2']
    · by_cases c1 : D (5 * i + 4) = i ∨ (p : Int) ≤ D (5 * i + 4)
      · rw [if_pos (Or.inr (tw_cp_f c (by omega)))]
        simp only [l_X12_isWhole_2]
        by_cases c2 : (p : Int) ≤ D (5 * i + 4)
        · simp (disch := omega) only [qn0, qn1, qn2, qn3, qn4, qn5, qn6, qn7, qn8, qn9, qn10, qn11, qn12, qn13, qn14, qn15, qn16, qn17, qn18, qn24, qn30, qn31, qn32, qn33, qn36, qn38, qn40, qn41, qn42, qn43, qn45, qn47, qn48, qn49, qn50, qn51, qn52, qn53, qn57, qn58, qn59, qn60, qn61, qn62, qn63, qn91, qn93, qn97, qn99, qn100, qn103, qn104, qn112, qn113, qn115, qn116, qn118, qn119, qn121, qn124, qn173, qn177, qn240, qn255, qn295, qn352, qn353, qn533, qn999, qn1000, qn1023, qn6561, qn10000, qn20787, qn1000000, qn252645135, qn858993459, qn1000000000, qn1431655765, q_s1, q_s2, q_s3, q_s4, q_s5, iI_add, iI_sub, iI_mul, iI_neg, q_lt, q_le, q_eq, qz0, qz1, qz2, qz3, if_pos, if_neg, reduceIte, hp, e1]
        · simp (disch := omega) only [qn0, qn1, qn2, qn3, qn4, qn5, qn6, qn7, qn8, qn9, qn10, qn11, qn12, qn13, qn14, qn15, qn16, qn17, qn18, qn24, qn30, qn31, qn32, qn33, qn36, qn38, qn40, qn41, qn42, qn43, qn45, qn47, qn48, qn49, qn50, qn51, qn52, qn53, qn57, qn58, qn59, qn60, qn61, qn62, qn63, qn91, qn93, qn97, qn99, qn100, qn103, qn104, qn112, qn113, qn115, qn116, qn118, qn119, qn121, qn124, qn173, qn177, qn240, qn255, qn295, qn352, qn353, qn533, qn999, qn1000, qn1023, qn6561, qn10000, qn20787, qn1000000, qn252645135, qn858993459, qn1000000000, qn1431655765, q_s1, q_s2, q_s3, q_s4, q_s5, iI_add, iI_sub, iI_mul, iI_neg, q_lt, q_le, q_eq, qz0, qz1, qz2, qz3, if_pos, if_neg, reduceIte, hp, e1]
      · obtain ⟨m, hm⟩ : ∃ m : Nat, D (5 * i + 4) = m := ⟨(D (5 * i + 4)).toNat, by omega⟩
        have hmp : m < p := by omega
        have hm2 := hD m hmp
        have e3 : gs_rd N 155 40 (iI (5 * (m : Int) + 4)) = some (iI (D (5 * m + 4))) := by
          rw [q_rdn (5 * m + 4) (by omega) (by omega) (by decide), h8 _ (by omega)]
        have hmm : (D (5 * i + 4)).toNat = m := by omega
        by_cases c3 : D (5 * m + 4) = i
        · rw [tw_cp_y c (by rw [hmm]; omega)]
          rw [hm] at e1
          simp only [l_X12_isWhole_2]
          simp (disch := omega) only [qn0, qn1, qn2, qn3, qn4, qn5, qn6, qn7, qn8, qn9, qn10, qn11, qn12, qn13, qn14, qn15, qn16, qn17, qn18, qn24, qn30, qn31, qn32, qn33, qn36, qn38, qn40, qn41, qn42, qn43, qn45, qn47, qn48, qn49, qn50, qn51, qn52, qn53, qn57, qn58, qn59, qn60, qn61, qn62, qn63, qn91, qn93, qn97, qn99, qn100, qn103, qn104, qn112, qn113, qn115, qn116, qn118, qn119, qn121, qn124, qn173, qn177, qn240, qn255, qn295, qn352, qn353, qn533, qn999, qn1000, qn1023, qn6561, qn10000, qn20787, qn1000000, qn252645135, qn858993459, qn1000000000, qn1431655765, q_s1, q_s2, q_s3, q_s4, q_s5, iI_add, iI_sub, iI_mul, iI_neg, q_lt, q_le, q_eq, qz0, qz1, qz2, qz3, if_pos, if_neg, reduceIte, hp, e1, e3, e2']
        · rw [if_pos (Or.inr (tw_cp_f c (by rw [hmm]; exact Or.inr (Or.inr c3))))]
          rw [hm] at e1
          simp only [l_X12_isWhole_2]
          simp (disch := omega) only [qn0, qn1, qn2, qn3, qn4, qn5, qn6, qn7, qn8, qn9, qn10, qn11, qn12, qn13, qn14, qn15, qn16, qn17, qn18, qn24, qn30, qn31, qn32, qn33, qn36, qn38, qn40, qn41, qn42, qn43, qn45, qn47, qn48, qn49, qn50, qn51, qn52, qn53, qn57, qn58, qn59, qn60, qn61, qn62, qn63, qn91, qn93, qn97, qn99, qn100, qn103, qn104, qn112, qn113, qn115, qn116, qn118, qn119, qn121, qn124, qn173, qn177, qn240, qn255, qn295, qn352, qn353, qn533, qn999, qn1000, qn1023, qn6561, qn10000, qn20787, qn1000000, qn252645135, qn858993459, qn1000000000, qn1431655765, q_s1, q_s2, q_s3, q_s4, q_s5, iI_add, iI_sub, iI_mul, iI_neg, q_lt, q_le, q_eq, qz0, qz1, qz2, qz3, if_pos, if_neg, reduceIte, hp, e1, e3]
theorem m_us (M : gs_M) (a : Nat) (t : Int) : ∃ j, l_X12_readTown_25 gs_FU (iI 0) (md_m M a t) = some (j, md_m (it_M M 153 0 3 it_u0) a t) := by
  obtain ⟨r, e, N1, hN, rfl⟩ := ma_up0 (fun f i (k : gs_M) => l_X12_readTown_25 f i (md_m k a t)) 3
    (fun i k => (∀ j, j < i → k 153 j = iI (it_u0 j)) ∧ ∀ x y, (x ≠ 153 ∨ 3 ≤ y) → k x y = M x y)
    (fun r => ∃ N1, ((∀ j, j < 3 → N1 153 j = iI (it_u0 j)) ∧ ∀ x y, (x ≠ 153 ∨ 3 ≤ y) → N1 x y = M x y) ∧ r = (iI (3 : Nat), md_m N1 a t)) M (by decide) ⟨fun j hj => by omega, fun _ _ _ => rfl⟩
    (by
      rintro f i k hi ⟨h1, h2⟩
      left
      have e1 := q_us0 i (by omega)
      have e4 : ∀ v, gs_wr (md_m k a t) 153 3 (iI i) v = some (md_m (gs_up k 153 i v) a t) := fun v => by
        rw [q_wrn i rfl (by omega) (by decide), md_ur _ (Or.inl (by decide))]
      refine ⟨gs_up k 153 i (iI (it_u0 i)), ?_, fun j hj => ?_, fun x y hxy => ?_⟩
      · simp only [l_X12_readTown_25]
        simp (disch := omega) only [qn0, qn1, qn2, qn3, qn4, qn5, qn6, qn7, qn8, qn9, qn10, qn11, qn12, qn13, qn14, qn15, qn16, qn17, qn18, qn24, qn30, qn31, qn32, qn33, qn36, qn38, qn40, qn41, qn42, qn43, qn45, qn47, qn48, qn49, qn50, qn51, qn52, qn53, qn57, qn58, qn59, qn60, qn61, qn62, qn63, qn91, qn93, qn97, qn99, qn100, qn103, qn104, qn112, qn113, qn115, qn116, qn118, qn119, qn121, qn124, qn173, qn177, qn240, qn255, qn295, qn352, qn353, qn533, qn999, qn1000, qn1023, qn6561, qn10000, qn20787, qn1000000, qn252645135, qn858993459, qn1000000000, qn1431655765, q_s1, q_s2, q_s3, q_s4, q_s5, iI_add, iI_sub, iI_mul, iI_neg, q_lt, q_le, q_eq, qz0, qz1, qz2, qz3, if_pos, if_neg, reduceIte, e1, e4]
      · by_cases c : j = i
        · subst c
          rw [gs_up_eq]
        · rw [ma_cell_ne _ _ _ _ _ _ (by omega)]
          exact h1 j (by omega)
      · rw [ma_cell_ne _ _ _ _ _ _ (by omega)]
        exact h2 x y hxy)
    (by
      rintro f k ⟨h1, h2⟩
      refine ⟨_, ?_, k, ⟨h1, h2⟩, rfl⟩
      simp only [l_X12_readTown_25]
      simp (disch := omega) only [qn0, qn1, qn2, qn3, qn4, qn5, qn6, qn7, qn8, qn9, qn10, qn11, qn12, qn13, qn14, qn15, qn16, qn17, qn18, qn24, qn30, qn31, qn32, qn33, qn36, qn38, qn40, qn41, qn42, qn43, qn45, qn47, qn48, qn49, qn50, qn51, qn52, qn53, qn57, qn58, qn59, qn60, qn61, qn62, qn63, qn91, qn93, qn97, qn99, qn100, qn103, qn104, qn112, qn113, qn115, qn116, qn118, qn119, qn121, qn124, qn173, qn177, qn240, qn255, qn295, qn352, qn353, qn533, qn999, qn1000, qn1023, qn6561, qn10000, qn20787, qn1000000, qn252645135, qn858993459, qn1000000000, qn1431655765, q_s1, q_s2, q_s3, q_s4, q_s5, iI_add, iI_sub, iI_mul, iI_neg, q_lt, q_le, q_eq, qz0, qz1, qz2, qz3, if_pos, if_neg, reduceIte])
  refine ⟨iI (3 : Nat), e.trans ?_⟩
  have : N1 = it_M M 153 0 3 it_u0 := by
    funext x y
    by_cases c : x = 153
    · subst c
      by_cases e : y < 3
      · have := it_M_i (M := M) (r := 153) (o := 0) (l := 3) (g := it_u0) e
        rw [Nat.zero_add] at this
        rw [this, hN.1 y e]
      · rw [it_M_o (by omega), hN.2 _ _ (by omega)]
    · rw [it_M_r c, hN.2 _ _ (Or.inl c)]
  rw [this]
theorem tw_go_b (w : tp_w b n) : ∀ (d : Nat) (q : tw_T), tw_b n q → ∀ y, tw_go b n d q = .inr y → tw_b n y := by
  intro d
  induction d with
  | zero =>
    intro q B y h
    cases h
  | succ d ih =>
    intro q B y h
    have hcb := tw_cl_b w B
    rw [tw_go_s] at h
    match hR : tw_cl b n q with
    | .inl u =>
      rw [hR] at h
      cases h
    | .inr x =>
      rw [hR] at h
      have h' : tw_nx b n d x = .inr y := h
      obtain ⟨hx1, B1⟩ := hcb.2 x hR
      have hs := tp_s_b (b := b) B1.1
      have hl := tp_l_b (a := x.1) w
      unfold tw_nx at h'
      by_cases c : tp_l b n x.1 = 59
      · rw [if_pos c] at h'
        exact ih _ (tw_b_a B1 (by omega)) y h'
      · rw [if_neg c] at h'
        by_cases c2 : tp_l b n x.1 = -1
        · rw [if_pos c2] at h'
          cases h'
          exact tw_b_a B1 hs.2
        · rw [if_neg c2] at h'
          cases h'
theorem c_townB (w : tp_w b n) : ∀ y, tw_go b n 241 tw_0 = .inr y → tw_b n y := tw_go_b w 241 tw_0 tw_b0
/-- the model's memory when a reading of the TAPE begins -/
def md_0 (M : gs_M) : gs_M := gs_up (gs_up (gs_up M 147 5 (nI 148)) 147 8 (iI 0)) 147 9 (M 147 6)
theorem m_town (w : tp_w b n) (K : md_K 148 0 b n (md_0 M)) : ∃ N a, f_X12_readTown M = some (md_m N a (tw_f b n)) ∧ tw_Y (md_0 M) N ∧ ∀ y, tw_r b n = .inr y → tw_M (md_0 M) N y := by
  have w1 := w.1
  have u0 : f_X12_starts_2 M (iI 0) (M 147 6) = some (md_m (md_0 M) 0 (-1)) := m_st2 _ _
  have u1 : gs_up (md_m (md_0 M) 0 (-1)) 147 25 (iI 0) = md_m (gs_up (md_0 M) 147 25 (iI 0)) 0 (-1) := md_ur _ (Or.inr ⟨by decide, by decide⟩)
  have u2 : gs_up (md_m (gs_up (md_0 M) 147 25 (iI 0)) 0 (-1)) 147 27 (iI 0) = md_m (gs_up (gs_up (md_0 M) 147 25 (iI 0)) 147 27 (iI 0)) 0 (-1) := md_ur _ (Or.inr ⟨by decide, by decide⟩)
  obtain ⟨ju, u3⟩ := m_us (gs_up (gs_up (md_0 M) 147 25 (iI 0)) 147 27 (iI 0)) 0 (-1)
  have C0 : tw_M (md_0 M) (it_M (gs_up (gs_up (md_0 M) 147 25 (iI 0)) 147 27 (iI 0)) 153 0 3 it_u0) tw_0 := by
    refine ⟨?_, ?_, fun k hk => ?_, fun k hk => absurd hk (Nat.not_lt_zero _), fun r y x1 x2 x3 => ?_⟩
    · rw [it_M_r (by decide), ma_cell_ne _ _ _ _ _ _ (by decide), gs_up_eq]
      rfl
    · rw [it_M_r (by decide), gs_up_eq]
      rfl
    · have := it_M_i (M := gs_up (gs_up (md_0 M) 147 25 (iI 0)) 147 27 (iI 0)) (r := 153) (o := 0) (l := 3) (g := it_u0) hk
      rw [Nat.zero_add] at this
      exact this
    · rw [it_M_r x1, ma_cell_ne _ _ _ _ _ _ (by omega), ma_cell_ne _ _ _ _ _ _ (by omega)]
  obtain ⟨N2, j1, j2, j3⟩ := m_rl w K 241 gs_FU tw_0 _ tw_b0 C0 (by show n < 0 + 241; omega) (by decide)
  have hc := c_townB w
  have KN := j1.K K
  unfold f_X12_readTown tw_f
  unfold tw_r
  match hS : tw_go b n 241 tw_0 with
  | .inl u =>
    obtain ⟨hu, ⟨j, a', k3⟩ | ⟨⟨j, k3⟩, k4, k5⟩⟩ := j2 u hS
    · have k3' : l_X12_readTown_50 gs_FU (iI 1) (md_m (it_M (gs_up (gs_up (md_0 M) 147 25 (iI 0)) 147 27 (iI 0)) 153 0 3 it_u0) 0 (-1)) = some (j, md_m N2 a' u) := k3
      refine ⟨N2, a', ?_, j1, fun y h => by cases h⟩
      show _ = some (md_m N2 a' (u : Int))
      simp (disch := omega) only [qn0, qn1, qn2, qn3, qn4, qn5, qn6, qn7, qn8, qn9, qn10, qn11, qn12, qn13, qn14, qn15, qn16, qn17, qn18, qn24, qn30, qn31, qn32, qn33, qn36, qn38, qn40, qn41, qn42, qn43, qn45, qn47, qn48, qn49, qn50, qn51, qn52, qn53, qn57, qn58, qn59, qn60, qn61, qn62, qn63, qn91, qn93, qn97, qn99, qn100, qn103, qn104, qn112, qn113, qn115, qn116, qn118, qn119, qn121, qn124, qn173, qn177, qn240, qn255, qn295, qn352, qn353, qn533, qn999, qn1000, qn1023, qn6561, qn10000, qn20787, qn1000000, qn252645135, qn858993459, qn1000000000, qn1431655765, q_s1, q_s2, q_s3, q_s4, q_s5, iI_add, iI_sub, iI_mul, iI_neg, q_lt, q_le, q_eq, qz0, qz1, qz2, qz3, if_pos, if_neg, reduceIte, u0, u1, u2, u3, k3', md_m11]
    · have k3' : l_X12_readTown_50 gs_FU (iI 1) (md_m (it_M (gs_up (gs_up (md_0 M) 147 25 (iI 0)) 147 27 (iI 0)) 153 0 3 it_u0) 0 (-1)) = some (j, md_m N2 u (-1)) := k3
      have e4 := m_look (t := -1) w KN hu
      rw [k4] at e4
      have hl := tp_l_b (a := u) w
      have e5 := m_fails (M := N2) (a := u)
      refine ⟨N2, u, ?_, j1, fun y h => by cases h⟩
      show _ = some (md_m N2 u (u : Int))
      simp (disch := omega) only [qn0, qn1, qn2, qn3, qn4, qn5, qn6, qn7, qn8, qn9, qn10, qn11, qn12, qn13, qn14, qn15, qn16, qn17, qn18, qn24, qn30, qn31, qn32, qn33, qn36, qn38, qn40, qn41, qn42, qn43, qn45, qn47, qn48, qn49, qn50, qn51, qn52, qn53, qn57, qn58, qn59, qn60, qn61, qn62, qn63, qn91, qn93, qn97, qn99, qn100, qn103, qn104, qn112, qn113, qn115, qn116, qn118, qn119, qn121, qn124, qn173, qn177, qn240, qn255, qn295, qn352, qn353, qn533, qn999, qn1000, qn1023, qn6561, qn10000, qn20787, qn1000000, qn252645135, qn858993459, qn1000000000, qn1431655765, q_s1, q_s2, q_s3, q_s4, q_s5, iI_add, iI_sub, iI_mul, iI_neg, q_lt, q_le, q_eq, qz0, qz1, qz2, qz3, if_pos, if_neg, reduceIte, u0, u1, u2, u3, k3', md_m11, e4, e5]
  | .inr y =>
    obtain ⟨⟨j, k3⟩, C2, k4, k5⟩ := j3 y hS
    have B2 := hc y hS
    have k3' : l_X12_readTown_50 gs_FU (iI 1) (md_m (it_M (gs_up (gs_up (md_0 M) 147 25 (iI 0)) 147 27 (iI 0)) 153 0 3 it_u0) 0 (-1)) = some (j, md_m N2 y.1 (-1)) := k3
    have e4 := m_look (t := -1) w KN B2.1
    rw [k4, k5] at e4
    have e5 := m_fails (M := N2) (a := y.1)
    have hp8 := B2.2.2.2.1
    have hy1 := B2.1
    have e6 := m_cpl (N := md_m N2 y.1 (-1)) C2.1 C2.2.2.2.1 (fun i hi => B2.2.2.2.2.2 i 4 hi (by decide)) hp8 y.2.2.1 0 gs_FU (by omega) (by
      have : (8 : Nat) < gs_FU := by decide
      omega)
    have e6' : f_X12_isWhole (md_m N2 y.1 (-1)) = some (if y.2.2.1 = 0 ∨ tw_cp y.2.2.1 y.2.2.2.2 y.2.2.1 0 = false then iI 0 else iI 1) := e6
    by_cases c : y.2.2.1 = 0 ∨ tw_cp y.2.2.1 y.2.2.2.2 y.2.2.1 0 = false
    · have ee : tw_en (.inr y) = .inl y.1 := if_pos c
      rw [ee]
      refine ⟨N2, y.1, ?_, j1, fun y h => by cases h⟩
      show _ = some (md_m N2 y.1 (y.1 : Int))
      rw [if_pos c] at e6'
      simp (disch := omega) only [qn0, qn1, qn2, qn3, qn4, qn5, qn6, qn7, qn8, qn9, qn10, qn11, qn12, qn13, qn14, qn15, qn16, qn17, qn18, qn24, qn30, qn31, qn32, qn33, qn36, qn38, qn40, qn41, qn42, qn43, qn45, qn47, qn48, qn49, qn50, qn51, qn52, qn53, qn57, qn58, qn59, qn60, qn61, qn62, qn63, qn91, qn93, qn97, qn99, qn100, qn103, qn104, qn112, qn113, qn115, qn116, qn118, qn119, qn121, qn124, qn173, qn177, qn240, qn255, qn295, qn352, qn353, qn533, qn999, qn1000, qn1023, qn6561, qn10000, qn20787, qn1000000, qn252645135, qn858993459, qn1000000000, qn1431655765, q_s1, q_s2, q_s3, q_s4, q_s5, iI_add, iI_sub, iI_mul, iI_neg, q_lt, q_le, q_eq, qz0, qz1, qz2, qz3, if_pos, if_neg, reduceIte, u0, u1, u2, u3, k3', md_m11, e4, e5, e6']
    · have ee : tw_en (.inr y) = .inr y := if_neg c
      rw [ee]
      refine ⟨N2, y.1, ?_, j1, fun z h => by cases h; exact C2⟩
      show _ = some (md_m N2 y.1 (-1))
      rw [if_neg c] at e6'
      simp (disch := omega) only [qn0, qn1, qn2, qn3, qn4, qn5, qn6, qn7, qn8, qn9, qn10, qn11, qn12, qn13, qn14, qn15, qn16, qn17, qn18, qn24, qn30, qn31, qn32, qn33, qn36, qn38, qn40, qn41, qn42, qn43, qn45, qn47, qn48, qn49, qn50, qn51, qn52, qn53, qn57, qn58, qn59, qn60, qn61, qn62, qn63, qn91, qn93, qn97, qn99, qn100, qn103, qn104, qn112, qn113, qn115, qn116, qn118, qn119, qn121, qn124, qn173, qn177, qn240, qn255, qn295, qn352, qn353, qn533, qn999, qn1000, qn1023, qn6561, qn10000, qn20787, qn1000000, qn252645135, qn858993459, qn1000000000, qn1431655765, q_s1, q_s2, q_s3, q_s4, q_s5, iI_add, iI_sub, iI_mul, iI_neg, q_lt, q_le, q_eq, qz0, qz1, qz2, qz3, if_pos, if_neg, reduceIte, u0, u1, u2, u3, k3', md_m11, e4, e6']
end Town3
