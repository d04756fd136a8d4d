/-! the model reads a LAW: chains of numbers -/
section Law20
variable {b : Nat → Int} {n r o : Nat} {N : gs_M} {A S : Nat → lr_R} {e : Nat → Int}
theorem lr_cl_0 : lr_cl 0 = 0 := rfl
theorem lr_op42 (x y : Int) : lr_op 42 x y = lr_cl (x * y) := by
  unfold lr_op
  rw [if_pos (by decide)]
theorem lr_op43 (x y : Int) : lr_op 43 x y = lr_cl (x + y) := by
  unfold lr_op
  rw [if_neg (by decide), if_pos (by decide)]
theorem lr_op45 (x y : Int) : lr_op 45 x y = lr_cl (x - y) := by
  unfold lr_op
  rw [if_neg (by decide), if_neg (by decide), if_pos (by decide)]
theorem lr_op47 (x y : Int) : lr_op 47 x y = if y = 0 then 0 else lr_cl (x.tdiv y) := by
  unfold lr_op
  rw [if_neg (by decide), if_neg (by decide), if_neg (by decide), if_pos (by decide)]
set_option maxHeartbeats 20000000 in
theorem m_lpT (w : tp_w b n) (K : md_K r o b n N) (he : lm_e e N) {G : Nat → Int32 → Int32 → gs_M → Option (Int32 × gs_M)} {dp H : Nat} (hA : lr_mg b n N e dp lm_any (fun Z => G 0 (iI 0) (iI 0) Z) A) (hg : lr_gd n H lr_num A) : ∀ (d f : Nat) (q : lr_Q), q.1 ≤ n → n < q.1 + d → d < f → (-2147483648 ≤ q.2.2 e ∧ q.2.2 e ≤ 2147483647) → (∀ u, lr_lp b n lr_pT A d q = .inl u → ∃ v x a', l_X12_term_5 G f (iI (q.2.2 e)) (lm_m N (iI (dp : Int)) q.1 (-1)) = some (v, lm_m N x a' (u : Nat))) ∧ ∀ y, lr_lp b n lr_pT A d q = .inr y → l_X12_term_5 G f (iI (q.2.2 e)) (lm_m N (iI (dp : Int)) q.1 (-1)) = some (iI (y.2.2 e), lm_m N (iI (dp : Int)) y.1 (-1)) := by
  have w1 := w.1
  intro d
  induction d with
  | zero =>
    intro f q h1 h2
    omega
  | succ d ih =>
    intro f q h1 h2 h3 hq
    obtain ⟨f, rfl⟩ : ∃ k, f = k + 1 + 1 := ⟨f - 2, by omega⟩
    have hs := tp_s_b (b := b) h1
    have hl := tp_l_b (a := q.1) w
    have e1 := lm_look (x := iI (dp : Int)) (t := -1) w K h1
    have e2 := lm_look2 (x := iI (dp : Int)) (t := -1) w K h1
    have es : ∀ (v x : Int32) (a' u : Nat), u ≤ n → l_X12_term_5 G (f + 1) v (lm_m N x a' (u : Nat)) = some (v, lm_m N x a' (u : Nat)) := fun v x a' u hu => by
      rw [l_X12_term_5]
      simp (disch := omega) only [qn0, qn1, qn2, qn3, qn4, qn5, qn6, qn7, qn8, qn9, qn10, qn11, qn12, qn13, qn14, qn15, qn16, qn17, qn18, qn24, qn30, qn31, qn32, qn33, qn36, qn38, qn40, qn41, qn42, qn43, qn45, qn47, qn48, qn49, qn50, qn51, qn52, qn53, qn57, qn58, qn59, qn60, qn61, qn62, qn63, qn91, qn93, qn97, qn99, qn100, qn103, qn104, qn112, qn113, qn115, qn116, qn118, qn119, qn121, qn124, qn173, qn177, qn240, qn255, qn295, qn352, qn353, qn533, qn999, qn1000, qn1023, qn6561, qn10000, qn20787, qn1000000, qn252645135, qn858993459, qn1000000000, qn1431655765, q_s1, q_s2, q_s3, q_s4, q_s5, iI_add, iI_sub, iI_mul, iI_neg, q_lt, q_le, q_eq, qz0, qz1, qz2, qz3, if_pos, if_neg, reduceIte, lm_11]
    by_cases c : tp_l b n q.1 = 42 ∨ tp_l b n q.1 = 47
    · have cP : lr_pT (tp_l b n q.1) = true := by
        rcases c with c | c <;> (rw [c]; rfl)
      have step : ∀ (y0 : Int) (x' : Int32) (a' : Nat) (t' : Int), -2147483648 ≤ y0 ∧ y0 ≤ 2147483647 → G 0 (iI 0) (iI 0) (lm_m N (iI (dp : Int)) (tp_s b n q.1 + 1) (-1)) = some (iI y0, lm_m N x' a' t') → l_X12_term_5 G (f + 1 + 1) (iI (q.2.2 e)) (lm_m N (iI (dp : Int)) q.1 (-1)) = l_X12_term_5 G (f + 1) (iI (lr_op (tp_l b n q.1) (q.2.2 e) y0)) (lm_m N x' a' t') := by
        intro y0 x' a' t' hy hG
        rw [l_X12_term_5]
        rcases c with c | c
        · rw [c] at e1 e2 ⊢
          have hm := lm_mulb hq hy
          have hw := m_within (z := q.2.2 e * y0) (by omega)
          rw [lr_op42]
          simp (disch := omega) only [qn0, qn1, qn2, qn3, qn4, qn5, qn6, qn7, qn8, qn9, qn10, qn11, qn12, qn13, qn14, qn15, qn16, qn17, qn18, qn24, qn30, qn31, qn32, qn33, qn36, qn38, qn40, qn41, qn42, qn43, qn45, qn47, qn48, qn49, qn50, qn51, qn52, qn53, qn57, qn58, qn59, qn60, qn61, qn62, qn63, qn91, qn93, qn97, qn99, qn100, qn103, qn104, qn112, qn113, qn115, qn116, qn118, qn119, qn121, qn124, qn173, qn177, qn240, qn255, qn295, qn352, qn353, qn533, qn999, qn1000, qn1023, qn6561, qn10000, qn20787, qn1000000, qn252645135, qn858993459, qn1000000000, qn1431655765, qj0, qj1, qj2, qj4, qj7, qj8, qj9, qj10, qj30, qj100, qj1000, qj1000000, qj1000000000, qj1442695040888963407, qj6364136223846793005, q_s1, q_s2, q_s3, q_s4, q_s5, iI_add, iI_sub, iI_mul, iI_neg, q_lt, q_le, q_eq, jI_add, jI_sub, jI_mul, jI_neg, jI_of, jI_to, j_le0, j_ge0, j_lt0, j_gt0, j_eq0, q_dvl, qz0, qz1, qz2, qz3, if_pos, if_neg, reduceIte, lm_11, e1, e2, lm_10, lm_s, hG, hw]
        · rw [c] at e1 e2 ⊢
          rw [lr_op47]
          by_cases cy : y0 = 0
          · subst cy
            have hw := m_within (z := 0) (by omega)
            rw [lr_cl_0] at hw
            simp (disch := omega) only [qn0, qn1, qn2, qn3, qn4, qn5, qn6, qn7, qn8, qn9, qn10, qn11, qn12, qn13, qn14, qn15, qn16, qn17, qn18, qn24, qn30, qn31, qn32, qn33, qn36, qn38, qn40, qn41, qn42, qn43, qn45, qn47, qn48, qn49, qn50, qn51, qn52, qn53, qn57, qn58, qn59, qn60, qn61, qn62, qn63, qn91, qn93, qn97, qn99, qn100, qn103, qn104, qn112, qn113, qn115, qn116, qn118, qn119, qn121, qn124, qn173, qn177, qn240, qn255, qn295, qn352, qn353, qn533, qn999, qn1000, qn1023, qn6561, qn10000, qn20787, qn1000000, qn252645135, qn858993459, qn1000000000, qn1431655765, qj0, qj1, qj2, qj4, qj7, qj8, qj9, qj10, qj30, qj100, qj1000, qj1000000, qj1000000000, qj1442695040888963407, qj6364136223846793005, q_s1, q_s2, q_s3, q_s4, q_s5, iI_add, iI_sub, iI_mul, iI_neg, q_lt, q_le, q_eq, jI_add, jI_sub, jI_mul, jI_neg, jI_of, jI_to, j_le0, j_ge0, j_lt0, j_gt0, j_eq0, q_dvl, qz0, qz1, qz2, qz3, if_pos, if_neg, reduceIte, lm_11, e1, e2, lm_10, lm_s, hG, hw]
          · have hd := q_tdivb (a := q.2.2 e) (b := y0) (n := 2147483648) (by omega)
            have hw := m_within (z := (q.2.2 e).tdiv y0) (by omega)
            simp (disch := omega) only [qn0, qn1, qn2, qn3, qn4, qn5, qn6, qn7, qn8, qn9, qn10, qn11, qn12, qn13, qn14, qn15, qn16, qn17, qn18, qn24, qn30, qn31, qn32, qn33, qn36, qn38, qn40, qn41, qn42, qn43, qn45, qn47, qn48, qn49, qn50, qn51, qn52, qn53, qn57, qn58, qn59, qn60, qn61, qn62, qn63, qn91, qn93, qn97, qn99, qn100, qn103, qn104, qn112, qn113, qn115, qn116, qn118, qn119, qn121, qn124, qn173, qn177, qn240, qn255, qn295, qn352, qn353, qn533, qn999, qn1000, qn1023, qn6561, qn10000, qn20787, qn1000000, qn252645135, qn858993459, qn1000000000, qn1431655765, qj0, qj1, qj2, qj4, qj7, qj8, qj9, qj10, qj30, qj100, qj1000, qj1000000, qj1000000000, qj1442695040888963407, qj6364136223846793005, q_s1, q_s2, q_s3, q_s4, q_s5, iI_add, iI_sub, iI_mul, iI_neg, q_lt, q_le, q_eq, jI_add, jI_sub, jI_mul, jI_neg, jI_of, jI_to, j_le0, j_ge0, j_lt0, j_gt0, j_eq0, q_dvl, qz0, qz1, qz2, qz3, if_pos, if_neg, reduceIte, lm_11, e1, e2, lm_10, lm_s, hG, hw]
      obtain ⟨k1, k2⟩ := hA (tp_s b n q.1 + 1) (by omega)
      have hA' := hg (tp_s b n q.1 + 1) (by omega)
      match hR : A (tp_s b n q.1 + 1) with
      | .inl u =>
        obtain ⟨v, x', a', -, k3⟩ := k1 u hR
        obtain ⟨y0, y1, y2, rfl⟩ := q_any v
        have hu := hA'.1 u hR
        rw [lr_lp_e cP hR, step y0 x' a' u (by omega) k3, es _ _ _ _ hu]
        refine ⟨fun u' h => ?_, fun y h => (by cases h)⟩
        cases h
        exact ⟨_, x', a', rfl⟩
      | .inr x =>
        have k3 := k2 x hR
        obtain ⟨x1, x2, x3, -, -, x6⟩ := hA'.2 x hR
        have hx := lm_num x6 he
        rw [lr_lp_y cP hR, step _ _ _ _ hx k3]
        have hb : -1000000 ≤ lr_op (tp_l b n q.1) (q.2.2 e) (x.2.2 e) ∧ lr_op (tp_l b n q.1) (q.2.2 e) (x.2.2 e) ≤ 1000000 := lr_op_b
        exact ih (f + 1) (x.1, q.2.1 ++ x.2.1 ++ [-(tp_l b n q.1)], fun e => lr_op (tp_l b n q.1) (q.2.2 e) (x.2.2 e)) x2 (by show n < x.1 + d; omega) (by omega) (by
          show -2147483648 ≤ lr_op (tp_l b n q.1) (q.2.2 e) (x.2.2 e) ∧ lr_op (tp_l b n q.1) (q.2.2 e) (x.2.2 e) ≤ 2147483647
          omega)
    · have cP : ¬ lr_pT (tp_l b n q.1) = true := by
        simp only [lr_pT, Bool.or_eq_true, beq_iff_eq]
        exact c
      rw [lr_lp_n cP]
      refine ⟨fun u h => (by cases h), fun y h => ?_⟩
      cases h
      rw [l_X12_term_5]
      simp (disch := omega) only [qn0, qn1, qn2, qn3, qn4, qn5, qn6, qn7, qn8, qn9, qn10, qn11, qn12, qn13, qn14, qn15, qn16, qn17, qn18, qn24, qn30, qn31, qn32, qn33, qn36, qn38, qn40, qn41, qn42, qn43, qn45, qn47, qn48, qn49, qn50, qn51, qn52, qn53, qn57, qn58, qn59, qn60, qn61, qn62, qn63, qn91, qn93, qn97, qn99, qn100, qn103, qn104, qn112, qn113, qn115, qn116, qn118, qn119, qn121, qn124, qn173, qn177, qn240, qn255, qn295, qn352, qn353, qn533, qn999, qn1000, qn1023, qn6561, qn10000, qn20787, qn1000000, qn252645135, qn858993459, qn1000000000, qn1431655765, q_s1, q_s2, q_s3, q_s4, q_s5, iI_add, iI_sub, iI_mul, iI_neg, q_lt, q_le, q_eq, qz0, qz1, qz2, qz3, if_pos, if_neg, reduceIte, lm_11, e1, e2]
theorem m_chT (w : tp_w b n) (K : md_K r o b n N) (he : lm_e e N) {G : Nat → Int32 → Int32 → gs_M → Option (Int32 × gs_M)} {dp H : Nat} (hA : lr_mg b n N e dp lm_any (fun Z => G 0 (iI 0) (iI 0) Z) A) (hg : lr_gd n H lr_num A) : lr_mg b n N e dp lm_any (fun Z => f_X12_term G Z) (lr_ch b n lr_pT A) := by
  intro a ha
  have w1 := w.1
  obtain ⟨k1, k2⟩ := hA a ha
  have hg' := hg a ha
  unfold lr_ch
  match hR : A a with
  | .inl u =>
    obtain ⟨v, x', a', -, k3⟩ := k1 u hR
    have k3' : G 0 (iI 0) (iI 0) (lm_m N (iI (dp : Int)) a (-1)) = some (v, lm_m N x' a' (u : Nat)) := k3
    have hu := hg'.1 u hR
    have es : ∀ f, l_X12_term_5 G (f + 1) v (lm_m N x' a' (u : Nat)) = some (v, lm_m N x' a' (u : Nat)) := fun f => by
      rw [l_X12_term_5]
      simp (disch := omega) only [qn0, qn1, qn2, qn3, qn4, qn5, qn6, qn7, qn8, qn9, qn10, qn11, qn12, qn13, qn14, qn15, qn16, qn17, qn18, qn24, qn30, qn31, qn32, qn33, qn36, qn38, qn40, qn41, qn42, qn43, qn45, qn47, qn48, qn49, qn50, qn51, qn52, qn53, qn57, qn58, qn59, qn60, qn61, qn62, qn63, qn91, qn93, qn97, qn99, qn100, qn103, qn104, qn112, qn113, qn115, qn116, qn118, qn119, qn121, qn124, qn173, qn177, qn240, qn255, qn295, qn352, qn353, qn533, qn999, qn1000, qn1023, qn6561, qn10000, qn20787, qn1000000, qn252645135, qn858993459, qn1000000000, qn1431655765, q_s1, q_s2, q_s3, q_s4, q_s5, iI_add, iI_sub, iI_mul, iI_neg, q_lt, q_le, q_eq, qz0, qz1, qz2, qz3, if_pos, if_neg, reduceIte, lm_11]
    have es' : l_X12_term_5 G gs_FU v (lm_m N x' a' (u : Nat)) = some (v, lm_m N x' a' (u : Nat)) := es 29999
    refine ⟨fun u' h => ?_, fun y h => (by cases h)⟩
    cases h
    refine ⟨v, x', a', True.intro, ?_⟩
    simp only [f_X12_term]
    simp (disch := omega) only [qn0, qn1, qn2, qn3, qn4, qn5, qn6, qn7, qn8, qn9, qn10, qn11, qn12, qn13, qn14, qn15, qn16, qn17, qn18, qn24, qn30, qn31, qn32, qn33, qn36, qn38, qn40, qn41, qn42, qn43, qn45, qn47, qn48, qn49, qn50, qn51, qn52, qn53, qn57, qn58, qn59, qn60, qn61, qn62, qn63, qn91, qn93, qn97, qn99, qn100, qn103, qn104, qn112, qn113, qn115, qn116, qn118, qn119, qn121, qn124, qn173, qn177, qn240, qn255, qn295, qn352, qn353, qn533, qn999, qn1000, qn1023, qn6561, qn10000, qn20787, qn1000000, qn252645135, qn858993459, qn1000000000, qn1431655765, q_s1, q_s2, q_s3, q_s4, q_s5, iI_add, iI_sub, iI_mul, iI_neg, q_lt, q_le, q_eq, qz0, qz1, qz2, qz3, if_pos, if_neg, reduceIte, k3', es']
  | .inr q =>
    have k3 : G 0 (iI 0) (iI 0) (lm_m N (iI (dp : Int)) a (-1)) = some (iI (q.2.2 e), lm_m N (iI (dp : Int)) q.1 (-1)) := k2 q hR
    obtain ⟨q1, q2, q3, -, -, q6⟩ := hg'.2 q hR
    obtain ⟨m1, m2⟩ := m_lpT w K he hA hg 241 gs_FU q q2 (by omega) (by decide) (lm_num q6 he)
    refine ⟨fun u h => ?_, fun y h => ?_⟩
    · obtain ⟨v, x', a', m3⟩ := m1 u h
      refine ⟨v, x', a', True.intro, ?_⟩
      simp only [f_X12_term]
      simp (disch := omega) only [qn0, qn1, qn2, qn3, qn4, qn5, qn6, qn7, qn8, qn9, qn10, qn11, qn12, qn13, qn14, qn15, qn16, qn17, qn18, qn24, qn30, qn31, qn32, qn33, qn36, qn38, qn40, qn41, qn42, qn43, qn45, qn47, qn48, qn49, qn50, qn51, qn52, qn53, qn57, qn58, qn59, qn60, qn61, qn62, qn63, qn91, qn93, qn97, qn99, qn100, qn103, qn104, qn112, qn113, qn115, qn116, qn118, qn119, qn121, qn124, qn173, qn177, qn240, qn255, qn295, qn352, qn353, qn533, qn999, qn1000, qn1023, qn6561, qn10000, qn20787, qn1000000, qn252645135, qn858993459, qn1000000000, qn1431655765, q_s1, q_s2, q_s3, q_s4, q_s5, iI_add, iI_sub, iI_mul, iI_neg, q_lt, q_le, q_eq, qz0, qz1, qz2, qz3, if_pos, if_neg, reduceIte, k3, m3]
    · have m3 := m2 y h
      simp only [f_X12_term]
      simp (disch := omega) only [qn0, qn1, qn2, qn3, qn4, qn5, qn6, qn7, qn8, qn9, qn10, qn11, qn12, qn13, qn14, qn15, qn16, qn17, qn18, qn24, qn30, qn31, qn32, qn33, qn36, qn38, qn40, qn41, qn42, qn43, qn45, qn47, qn48, qn49, qn50, qn51, qn52, qn53, qn57, qn58, qn59, qn60, qn61, qn62, qn63, qn91, qn93, qn97, qn99, qn100, qn103, qn104, qn112, qn113, qn115, qn116, qn118, qn119, qn121, qn124, qn173, qn177, qn240, qn255, qn295, qn352, qn353, qn533, qn999, qn1000, qn1023, qn6561, qn10000, qn20787, qn1000000, qn252645135, qn858993459, qn1000000000, qn1431655765, q_s1, q_s2, q_s3, q_s4, q_s5, iI_add, iI_sub, iI_mul, iI_neg, q_lt, q_le, q_eq, qz0, qz1, qz2, qz3, if_pos, if_neg, reduceIte, k3, m3]
set_option maxHeartbeats 20000000 in
theorem m_lpS (w : tp_w b n) (K : md_K r o b n N) (he : lm_e e N) {G : Nat → Int32 → Int32 → gs_M → Option (Int32 × gs_M)} {dp H : Nat} (hA : lr_mg b n N e dp lm_any (fun Z => G 1 (iI 0) (iI 0) Z) A) (hg : lr_gd n H lr_num A) : ∀ (d f : Nat) (q : lr_Q), q.1 ≤ n → n < q.1 + d → d < f → (-2147483648 ≤ q.2.2 e ∧ q.2.2 e ≤ 2147483647) → (∀ u, lr_lp b n lr_pS A d q = .inl u → ∃ v x a', l_X12_sum_5 G f (iI (q.2.2 e)) (lm_m N (iI (dp : Int)) q.1 (-1)) = some (v, lm_m N x a' (u : Nat))) ∧ ∀ y, lr_lp b n lr_pS A d q = .inr y → l_X12_sum_5 G f (iI (q.2.2 e)) (lm_m N (iI (dp : Int)) q.1 (-1)) = some (iI (y.2.2 e), lm_m N (iI (dp : Int)) y.1 (-1)) := by
  have w1 := w.1
  intro d
  induction d with
  | zero =>
    intro f q h1 h2
    omega
  | succ d ih =>
    intro f q h1 h2 h3 hq
    obtain ⟨f, rfl⟩ : ∃ k, f = k + 1 + 1 := ⟨f - 2, by omega⟩
    have hs := tp_s_b (b := b) h1
    have hl := tp_l_b (a := q.1) w
    have e1 := lm_look (x := iI (dp : Int)) (t := -1) w K h1
    have e2 := lm_look2 (x := iI (dp : Int)) (t := -1) w K h1
    have es : ∀ (v x : Int32) (a' u : Nat), u ≤ n → l_X12_sum_5 G (f + 1) v (lm_m N x a' (u : Nat)) = some (v, lm_m N x a' (u : Nat)) := fun v x a' u hu => by
      rw [l_X12_sum_5]
      simp (disch := omega) only [qn0, qn1, qn2, qn3, qn4, qn5, qn6, qn7, qn8, qn9, qn10, qn11, qn12, qn13, qn14, qn15, qn16, qn17, qn18, qn24, qn30, qn31, qn32, qn33, qn36, qn38, qn40, qn41, qn42, qn43, qn45, qn47, qn48, qn49, qn50, qn51, qn52, qn53, qn57, qn58, qn59, qn60, qn61, qn62, qn63, qn91, qn93, qn97, qn99, qn100, qn103, qn104, qn112, qn113, qn115, qn116, qn118, qn119, qn121, qn124, qn173, qn177, qn240, qn255, qn295, qn352, qn353, qn533, qn999, qn1000, qn1023, qn6561, qn10000, qn20787, qn1000000, qn252645135, qn858993459, qn1000000000, qn1431655765, q_s1, q_s2, q_s3, q_s4, q_s5, iI_add, iI_sub, iI_mul, iI_neg, q_lt, q_le, q_eq, qz0, qz1, qz2, qz3, if_pos, if_neg, reduceIte, lm_11]
    by_cases c : tp_l b n q.1 = 43 ∨ tp_l b n q.1 = 45
    · have cP : lr_pS (tp_l b n q.1) = true := by
        rcases c with c | c <;> (rw [c]; rfl)
      have step : ∀ (y0 : Int) (x' : Int32) (a' : Nat) (t' : Int), -2147483648 ≤ y0 ∧ y0 ≤ 2147483647 → G 1 (iI 0) (iI 0) (lm_m N (iI (dp : Int)) (tp_s b n q.1 + 1) (-1)) = some (iI y0, lm_m N x' a' t') → l_X12_sum_5 G (f + 1 + 1) (iI (q.2.2 e)) (lm_m N (iI (dp : Int)) q.1 (-1)) = l_X12_sum_5 G (f + 1) (iI (lr_op (tp_l b n q.1) (q.2.2 e) y0)) (lm_m N x' a' t') := by
        intro y0 x' a' t' hy hG
        rw [l_X12_sum_5]
        rcases c with c | c
        · rw [c] at e1 e2 ⊢
          have hw := m_within (z := q.2.2 e + y0) (by omega)
          rw [lr_op43]
          simp (disch := omega) only [qn0, qn1, qn2, qn3, qn4, qn5, qn6, qn7, qn8, qn9, qn10, qn11, qn12, qn13, qn14, qn15, qn16, qn17, qn18, qn24, qn30, qn31, qn32, qn33, qn36, qn38, qn40, qn41, qn42, qn43, qn45, qn47, qn48, qn49, qn50, qn51, qn52, qn53, qn57, qn58, qn59, qn60, qn61, qn62, qn63, qn91, qn93, qn97, qn99, qn100, qn103, qn104, qn112, qn113, qn115, qn116, qn118, qn119, qn121, qn124, qn173, qn177, qn240, qn255, qn295, qn352, qn353, qn533, qn999, qn1000, qn1023, qn6561, qn10000, qn20787, qn1000000, qn252645135, qn858993459, qn1000000000, qn1431655765, qj0, qj1, qj2, qj4, qj7, qj8, qj9, qj10, qj30, qj100, qj1000, qj1000000, qj1000000000, qj1442695040888963407, qj6364136223846793005, q_s1, q_s2, q_s3, q_s4, q_s5, iI_add, iI_sub, iI_mul, iI_neg, q_lt, q_le, q_eq, jI_add, jI_sub, jI_mul, jI_neg, jI_of, jI_to, j_le0, j_ge0, j_lt0, j_gt0, j_eq0, q_dvl, qz0, qz1, qz2, qz3, if_pos, if_neg, reduceIte, lm_11, e1, e2, lm_10, lm_s, hG, hw]
        · rw [c] at e1 e2 ⊢
          have hw := m_within (z := q.2.2 e - y0) (by omega)
          rw [lr_op45]
          simp (disch := omega) only [qn0, qn1, qn2, qn3, qn4, qn5, qn6, qn7, qn8, qn9, qn10, qn11, qn12, qn13, qn14, qn15, qn16, qn17, qn18, qn24, qn30, qn31, qn32, qn33, qn36, qn38, qn40, qn41, qn42, qn43, qn45, qn47, qn48, qn49, qn50, qn51, qn52, qn53, qn57, qn58, qn59, qn60, qn61, qn62, qn63, qn91, qn93, qn97, qn99, qn100, qn103, qn104, qn112, qn113, qn115, qn116, qn118, qn119, qn121, qn124, qn173, qn177, qn240, qn255, qn295, qn352, qn353, qn533, qn999, qn1000, qn1023, qn6561, qn10000, qn20787, qn1000000, qn252645135, qn858993459, qn1000000000, qn1431655765, qj0, qj1, qj2, qj4, qj7, qj8, qj9, qj10, qj30, qj100, qj1000, qj1000000, qj1000000000, qj1442695040888963407, qj6364136223846793005, q_s1, q_s2, q_s3, q_s4, q_s5, iI_add, iI_sub, iI_mul, iI_neg, q_lt, q_le, q_eq, jI_add, jI_sub, jI_mul, jI_neg, jI_of, jI_to, j_le0, j_ge0, j_lt0, j_gt0, j_eq0, q_dvl, qz0, qz1, qz2, qz3, if_pos, if_neg, reduceIte, lm_11, e1, e2, lm_10, lm_s, hG, hw]
      obtain ⟨k1, k2⟩ := hA (tp_s b n q.1 + 1) (by omega)
      have hA' := hg (tp_s b n q.1 + 1) (by omega)
      match hR : A (tp_s b n q.1 + 1) with
      | .inl u =>
        obtain ⟨v, x', a', -, k3⟩ := k1 u hR
        obtain ⟨y0, y1, y2, rfl⟩ := q_any v
        have hu := hA'.1 u hR
        rw [lr_lp_e cP hR, step y0 x' a' u (by omega) k3, es _ _ _ _ hu]
        refine ⟨fun u' h => ?_, fun y h => (by cases h)⟩
        cases h
        exact ⟨_, x', a', rfl⟩
      | .inr x =>
        have k3 := k2 x hR
        obtain ⟨x1, x2, x3, -, -, x6⟩ := hA'.2 x hR
        have hx := lm_num x6 he
        rw [lr_lp_y cP hR, step _ _ _ _ hx k3]
        have hb : -1000000 ≤ lr_op (tp_l b n q.1) (q.2.2 e) (x.2.2 e) ∧ lr_op (tp_l b n q.1) (q.2.2 e) (x.2.2 e) ≤ 1000000 := lr_op_b
        exact ih (f + 1) (x.1, q.2.1 ++ x.2.1 ++ [-(tp_l b n q.1)], fun e => lr_op (tp_l b n q.1) (q.2.2 e) (x.2.2 e)) x2 (by show n < x.1 + d; omega) (by omega) (by
          show -2147483648 ≤ lr_op (tp_l b n q.1) (q.2.2 e) (x.2.2 e) ∧ lr_op (tp_l b n q.1) (q.2.2 e) (x.2.2 e) ≤ 2147483647
          omega)
    · have cP : ¬ lr_pS (tp_l b n q.1) = true := by
        simp only [lr_pS, Bool.or_eq_true, beq_iff_eq]
        exact c
      rw [lr_lp_n cP]
      refine ⟨fun u h => (by cases h), fun y h => ?_⟩
      cases h
      rw [l_X12_sum_5]
      simp (disch := omega) only [qn0, qn1, qn2, qn3, qn4, qn5, qn6, qn7, qn8, qn9, qn10, qn11, qn12, qn13, qn14, qn15, qn16, qn17, qn18, qn24, qn30, qn31, qn32, qn33, qn36, qn38, qn40, qn41, qn42, qn43, qn45, qn47, qn48, qn49, qn50, qn51, qn52, qn53, qn57, qn58, qn59, qn60, qn61, qn62, qn63, qn91, qn93, qn97, qn99, qn100, qn103, qn104, qn112, qn113, qn115, qn116, qn118, qn119, qn121, qn124, qn173, qn177, qn240, qn255, qn295, qn352, qn353, qn533, qn999, qn1000, qn1023, qn6561, qn10000, qn20787, qn1000000, qn252645135, qn858993459, qn1000000000, qn1431655765, q_s1, q_s2, q_s3, q_s4, q_s5, iI_add, iI_sub, iI_mul, iI_neg, q_lt, q_le, q_eq, qz0, qz1, qz2, qz3, if_pos, if_neg, reduceIte, lm_11, e1, e2]
theorem m_chS (w : tp_w b n) (K : md_K r o b n N) (he : lm_e e N) {G : Nat → Int32 → Int32 → gs_M → Option (Int32 × gs_M)} {dp H : Nat} (hA : lr_mg b n N e dp lm_any (fun Z => G 1 (iI 0) (iI 0) Z) A) (hg : lr_gd n H lr_num A) : lr_mg b n N e dp lm_any (fun Z => f_X12_sum G Z) (lr_ch b n lr_pS A) := by
  intro a ha
  have w1 := w.1
  obtain ⟨k1, k2⟩ := hA a ha
  have hg' := hg a ha
  unfold lr_ch
  match hR : A a with
  | .inl u =>
    obtain ⟨v, x', a', -, k3⟩ := k1 u hR
    have k3' : G 1 (iI 0) (iI 0) (lm_m N (iI (dp : Int)) a (-1)) = some (v, lm_m N x' a' (u : Nat)) := k3
    have hu := hg'.1 u hR
    have es : ∀ f, l_X12_sum_5 G (f + 1) v (lm_m N x' a' (u : Nat)) = some (v, lm_m N x' a' (u : Nat)) := fun f => by
      rw [l_X12_sum_5]
      simp (disch := omega) only [qn0, qn1, qn2, qn3, qn4, qn5, qn6, qn7, qn8, qn9, qn10, qn11, qn12, qn13, qn14, qn15, qn16, qn17, qn18, qn24, qn30, qn31, qn32, qn33, qn36, qn38, qn40, qn41, qn42, qn43, qn45, qn47, qn48, qn49, qn50, qn51, qn52, qn53, qn57, qn58, qn59, qn60, qn61, qn62, qn63, qn91, qn93, qn97, qn99, qn100, qn103, qn104, qn112, qn113, qn115, qn116, qn118, qn119, qn121, qn124, qn173, qn177, qn240, qn255, qn295, qn352, qn353, qn533, qn999, qn1000, qn1023, qn6561, qn10000, qn20787, qn1000000, qn252645135, qn858993459, qn1000000000, qn1431655765, q_s1, q_s2, q_s3, q_s4, q_s5, iI_add, iI_sub, iI_mul, iI_neg, q_lt, q_le, q_eq, qz0, qz1, qz2, qz3, if_pos, if_neg, reduceIte, lm_11]
    have es' : l_X12_sum_5 G gs_FU v (lm_m N x' a' (u : Nat)) = some (v, lm_m N x' a' (u : Nat)) := es 29999
    refine ⟨fun u' h => ?_, fun y h => (by cases h)⟩
    cases h
    refine ⟨v, x', a', True.intro, ?_⟩
    simp only [f_X12_sum]
    simp (disch := omega) only [qn0, qn1, qn2, qn3, qn4, qn5, qn6, qn7, qn8, qn9, qn10, qn11, qn12, qn13, qn14, qn15, qn16, qn17, qn18, qn24, qn30, qn31, qn32, qn33, qn36, qn38, qn40, qn41, qn42, qn43, qn45, qn47, qn48, qn49, qn50, qn51, qn52, qn53, qn57, qn58, qn59, qn60, qn61, qn62, qn63, qn91, qn93, qn97, qn99, qn100, qn103, qn104, qn112, qn113, qn115, qn116, qn118, qn119, qn121, qn124, qn173, qn177, qn240, qn255, qn295, qn352, qn353, qn533, qn999, qn1000, qn1023, qn6561, qn10000, qn20787, qn1000000, qn252645135, qn858993459, qn1000000000, qn1431655765, q_s1, q_s2, q_s3, q_s4, q_s5, iI_add, iI_sub, iI_mul, iI_neg, q_lt, q_le, q_eq, qz0, qz1, qz2, qz3, if_pos, if_neg, reduceIte, k3', es']
  | .inr q =>
    have k3 : G 1 (iI 0) (iI 0) (lm_m N (iI (dp : Int)) a (-1)) = some (iI (q.2.2 e), lm_m N (iI (dp : Int)) q.1 (-1)) := k2 q hR
    obtain ⟨q1, q2, q3, -, -, q6⟩ := hg'.2 q hR
    obtain ⟨m1, m2⟩ := m_lpS w K he hA hg 241 gs_FU q q2 (by omega) (by decide) (lm_num q6 he)
    refine ⟨fun u h => ?_, fun y h => ?_⟩
    · obtain ⟨v, x', a', m3⟩ := m1 u h
      refine ⟨v, x', a', True.intro, ?_⟩
      simp only [f_X12_sum]
      simp (disch := omega) only [qn0, qn1, qn2, qn3, qn4, qn5, qn6, qn7, qn8, qn9, qn10, qn11, qn12, qn13, qn14, qn15, qn16, qn17, qn18, qn24, qn30, qn31, qn32, qn33, qn36, qn38, qn40, qn41, qn42, qn43, qn45, qn47, qn48, qn49, qn50, qn51, qn52, qn53, qn57, qn58, qn59, qn60, qn61, qn62, qn63, qn91, qn93, qn97, qn99, qn100, qn103, qn104, qn112, qn113, qn115, qn116, qn118, qn119, qn121, qn124, qn173, qn177, qn240, qn255, qn295, qn352, qn353, qn533, qn999, qn1000, qn1023, qn6561, qn10000, qn20787, qn1000000, qn252645135, qn858993459, qn1000000000, qn1431655765, q_s1, q_s2, q_s3, q_s4, q_s5, iI_add, iI_sub, iI_mul, iI_neg, q_lt, q_le, q_eq, qz0, qz1, qz2, qz3, if_pos, if_neg, reduceIte, k3, m3]
    · have m3 := m2 y h
      simp only [f_X12_sum]
      simp (disch := omega) only [qn0, qn1, qn2, qn3, qn4, qn5, qn6, qn7, qn8, qn9, qn10, qn11, qn12, qn13, qn14, qn15, qn16, qn17, qn18, qn24, qn30, qn31, qn32, qn33, qn36, qn38, qn40, qn41, qn42, qn43, qn45, qn47, qn48, qn49, qn50, qn51, qn52, qn53, qn57, qn58, qn59, qn60, qn61, qn62, qn63, qn91, qn93, qn97, qn99, qn100, qn103, qn104, qn112, qn113, qn115, qn116, qn118, qn119, qn121, qn124, qn173, qn177, qn240, qn255, qn295, qn352, qn353, qn533, qn999, qn1000, qn1023, qn6561, qn10000, qn20787, qn1000000, qn252645135, qn858993459, qn1000000000, qn1431655765, q_s1, q_s2, q_s3, q_s4, q_s5, iI_add, iI_sub, iI_mul, iI_neg, q_lt, q_le, q_eq, qz0, qz1, qz2, qz3, if_pos, if_neg, reduceIte, k3, m3]
theorem m_S (w : tp_w b n) (K : md_K r o b n N) (he : lm_e e N) : ∀ (k dp d : Nat), k + dp = 6 → 3 * k + 3 ≤ d → lr_mg b n N e dp lm_any (fun Z => g_1 d 2 (iI 0) (iI 0) Z) (lr_S b n k) := by
  intro k
  induction k with
  | zero =>
    intro dp d hk hd
    obtain ⟨d, rfl⟩ : ∃ m, d = m + 1 + 1 + 1 := ⟨d - 3, by omega⟩
    have hA : lr_mg b n N e dp lm_any (fun Z => g_1 (d + 1) 0 (iI 0) (iI 0) Z) (lr_atom b n none) := m_atom (H := 1) w K he (G := g_1 d) (Or.inl ⟨by omega, rfl⟩)
    have hB : lr_mg b n N e dp lm_any (fun Z => g_1 (d + 1 + 1) 1 (iI 0) (iI 0) Z) (lr_ch b n lr_pT (lr_atom b n none)) := m_chT w K he hA (lr_atom_g (H := 1) w (fun S h => by cases h) (by decide))
    exact m_chS w K he hB (lr_ch_g w lr_pT_h lr_pT_v (lr_atom_g (H := 1) w (fun S h => by cases h) (by decide)))
  | succ k ih =>
    intro dp d hk hd
    obtain ⟨d, rfl⟩ : ∃ m, d = m + 1 + 1 + 1 := ⟨d - 3, by omega⟩
    have hI := ih (dp + 1) d (by omega) (by omega)
    have hg : ∀ S, some (lr_S b n k) = some S → lr_gd n (3 + 2 * k) lr_num S := fun S h => by cases h; exact lr_S_g w k
    have hA : lr_mg b n N e dp lm_any (fun Z => g_1 (d + 1) 0 (iI 0) (iI 0) Z) (lr_atom b n (some (lr_S b n k))) := m_atom w K he (G := g_1 d) (Or.inr ⟨by omega, _, rfl, hI, lr_S_g w k⟩)
    have hB : lr_mg b n N e dp lm_any (fun Z => g_1 (d + 1 + 1) 1 (iI 0) (iI 0) Z) (lr_ch b n lr_pT (lr_atom b n (some (lr_S b n k)))) := m_chT w K he hA (lr_atom_g w hg (by omega))
    exact m_chS w K he hB (lr_ch_g w lr_pT_h lr_pT_v (lr_atom_g w hg (by omega)))
end Law20
