/-! the model reads a LAW: conditions, and all readers by depth -/
section Law22
variable {b : Nat → Int} {n r o : Nat} {N : gs_M} {A S U : Nat → lr_R} {e : Nat → Int}
theorem q_lm1 {u : Nat} (h : u ≤ 240) : ¬ (iI ((u : Nat) : Int) = iI (-1)) := by
  rw [q_eq (by omega)]
  omega
theorem lr_cm_b (w : tp_w b n) {H : Nat} (hg : lr_gd n H lr_num S) {q : lr_Q} (hq : q.1 ≤ n) : (∀ u, lr_cm b n S q = .inl u → u ≤ n) ∧ ∀ y, lr_cm b n S q = .inr y → q.1 ≤ y.1 ∧ y.1 ≤ n ∧ lr_tru y.2.2 := by
  have hs := tp_s_b (b := b) hq
  have hl := tp_l_b (a := q.1) w
  by_cases c : lr_pC (tp_l b n q.1) = true
  · have hz := lr_pC_h _ c
    have hA' := hg (tp_s b n q.1 + 1) (by omega)
    match hR : S (tp_s b n q.1 + 1) with
    | .inl u =>
      have ee : lr_cm b n S q = .inl u := by simp only [lr_cm, if_pos c, hR]
      rw [ee]
      exact ⟨fun x h => by have := Sum.inl.inj h; have := hA'.1 u hR; omega, fun x h => by cases h⟩
    | .inr x =>
      have ee : lr_cm b n S q = .inr (x.1, q.2.1 ++ x.2.1 ++ [-(tp_l b n q.1)], fun e => lr_op (tp_l b n q.1) (q.2.2 e) (x.2.2 e)) := by simp only [lr_cm, if_pos c, hR]
      rw [ee]
      obtain ⟨x1, x2, -⟩ := hA'.2 x hR
      refine ⟨fun x h => (by cases h), fun y h => ?_⟩
      cases h
      exact ⟨by show q.1 ≤ x.1; omega, x2, lr_tru_op (by omega) _ _⟩
  · have ee : lr_cm b n S q = .inl (tp_s b n q.1) := by simp only [lr_cm, if_neg c]
    rw [ee]
    exact ⟨fun x h => by have := Sum.inl.inj h; omega, fun x h => by cases h⟩
set_option maxHeartbeats 20000000 in
theorem m_lpA (w : tp_w b n) (K : md_K r o b n N) {G : Nat → Int32 → Int32 → gs_M → Option (Int32 × gs_M)} {dp H : Nat} (x1 x2 : Int32) (hA : lr_mg b n N e dp lm_tr (fun Z => G 4 (iI 0) (iI 0) Z) A) (hg : lr_gd n H lr_tru A) : ∀ (d f : Nat) (q : lr_Q), q.1 ≤ n → n < q.1 + d → d < f → (q.2.2 e = 0 ∨ q.2.2 e = 1) → (∀ u, lr_lp b n lr_pA A d q = .inl u → u ≤ n ∧ ∃ v x a', lm_tr v ∧ l_X12_part_18 G x1 x2 f (iI (q.2.2 e)) (lm_m N (iI (dp : Int)) q.1 (-1)) = some (v, lm_m N x a' (u : Nat))) ∧ ∀ y, lr_lp b n lr_pA A d q = .inr y → y.1 ≤ n ∧ (y.2.2 e = 0 ∨ y.2.2 e = 1) ∧ l_X12_part_18 G x1 x2 f (iI (q.2.2 e)) (lm_m N (iI (dp : Int)) q.1 (-1)) = some (iI (y.2.2 e), lm_m N (iI (dp : Int)) y.1 (-1)) := by
  have w1 := w.1
  intro d
  induction d with
  | zero =>
    intro f q h1 h2
    omega
  | succ d ih =>
    intro f q h1 h2 h3 hq
    obtain ⟨f, rfl⟩ : ∃ k, f = k + 1 + 1 := ⟨f - 2, by omega⟩
    have hs := tp_s_b (b := b) h1
    have hl := tp_l_b (a := q.1) w
    have e1 := lm_look (x := iI (dp : Int)) (t := -1) w K h1
    have es : ∀ (v x : Int32) (a' u : Nat), u ≤ n → l_X12_part_18 G x1 x2 (f + 1) v (lm_m N x a' (u : Nat)) = some (v, lm_m N x a' (u : Nat)) := fun v x a' u hu => by
      rw [l_X12_part_18]
      simp (disch := omega) only [qn0, qn1, qn2, qn3, qn4, qn5, qn6, qn7, qn8, qn9, qn10, qn11, qn12, qn13, qn14, qn15, qn16, qn17, qn18, qn24, qn30, qn31, qn32, qn33, qn36, qn38, qn40, qn41, qn42, qn43, qn45, qn47, qn48, qn49, qn50, qn51, qn52, qn53, qn57, qn58, qn59, qn60, qn61, qn62, qn63, qn91, qn93, qn97, qn99, qn100, qn103, qn104, qn112, qn113, qn115, qn116, qn118, qn119, qn121, qn124, qn173, qn177, qn240, qn255, qn295, qn352, qn353, qn533, qn999, qn1000, qn1023, qn6561, qn10000, qn20787, qn1000000, qn252645135, qn858993459, qn1000000000, qn1431655765, q_s1, q_s2, q_s3, q_s4, q_s5, iI_add, iI_sub, iI_mul, iI_neg, q_lt, q_le, q_eq, qz0, qz1, qz2, qz3, if_pos, if_neg, reduceIte, lm_11]
    by_cases c : tp_l b n q.1 = 38
    · have cP : lr_pA (tp_l b n q.1) = true := by
        rw [c]
        rfl
      have step : ∀ (x0 y0 : Int) (x' : Int32) (a' : Nat) (t' : Int), (x0 = 0 ∨ x0 = 1) → (y0 = 0 ∨ y0 = 1) → G 4 (iI 0) (iI 0) (lm_m N (iI (dp : Int)) (tp_s b n q.1 + 1) (-1)) = some (iI y0, lm_m N x' a' t') → l_X12_part_18 G x1 x2 (f + 1 + 1) (iI x0) (lm_m N (iI (dp : Int)) q.1 (-1)) = l_X12_part_18 G x1 x2 (f + 1) (iI (lr_op (tp_l b n q.1) x0 y0)) (lm_m N x' a' t') := by
        intro x0 y0 x' a' t' hx hy hG
        rw [l_X12_part_18, c]
        rw [c] at e1
        have o1 : lr_op 38 0 0 = 0 := by decide
        have o2 : lr_op 38 0 1 = 0 := by decide
        have o3 : lr_op 38 1 0 = 0 := by decide
        have o4 : lr_op 38 1 1 = 1 := by decide
        rcases hx with rfl | rfl <;> rcases hy with rfl | rfl
        · rw [o1]
          simp (disch := omega) only [qn0, qn1, qn2, qn3, qn4, qn5, qn6, qn7, qn8, qn9, qn10, qn11, qn12, qn13, qn14, qn15, qn16, qn17, qn18, qn24, qn30, qn31, qn32, qn33, qn36, qn38, qn40, qn41, qn42, qn43, qn45, qn47, qn48, qn49, qn50, qn51, qn52, qn53, qn57, qn58, qn59, qn60, qn61, qn62, qn63, qn91, qn93, qn97, qn99, qn100, qn103, qn104, qn112, qn113, qn115, qn116, qn118, qn119, qn121, qn124, qn173, qn177, qn240, qn255, qn295, qn352, qn353, qn533, qn999, qn1000, qn1023, qn6561, qn10000, qn20787, qn1000000, qn252645135, qn858993459, qn1000000000, qn1431655765, q_s1, q_s2, q_s3, q_s4, q_s5, iI_add, iI_sub, iI_mul, iI_neg, q_lt, q_le, q_eq, qz0, qz1, qz2, qz3, if_pos, if_neg, reduceIte, lm_11, e1, lm_10, lm_s, hG]
        · rw [o2]
          simp (disch := omega) only [qn0, qn1, qn2, qn3, qn4, qn5, qn6, qn7, qn8, qn9, qn10, qn11, qn12, qn13, qn14, qn15, qn16, qn17, qn18, qn24, qn30, qn31, qn32, qn33, qn36, qn38, qn40, qn41, qn42, qn43, qn45, qn47, qn48, qn49, qn50, qn51, qn52, qn53, qn57, qn58, qn59, qn60, qn61, qn62, qn63, qn91, qn93, qn97, qn99, qn100, qn103, qn104, qn112, qn113, qn115, qn116, qn118, qn119, qn121, qn124, qn173, qn177, qn240, qn255, qn295, qn352, qn353, qn533, qn999, qn1000, qn1023, qn6561, qn10000, qn20787, qn1000000, qn252645135, qn858993459, qn1000000000, qn1431655765, q_s1, q_s2, q_s3, q_s4, q_s5, iI_add, iI_sub, iI_mul, iI_neg, q_lt, q_le, q_eq, qz0, qz1, qz2, qz3, if_pos, if_neg, reduceIte, lm_11, e1, lm_10, lm_s, hG]
        · rw [o3]
          simp (disch := omega) only [qn0, qn1, qn2, qn3, qn4, qn5, qn6, qn7, qn8, qn9, qn10, qn11, qn12, qn13, qn14, qn15, qn16, qn17, qn18, qn24, qn30, qn31, qn32, qn33, qn36, qn38, qn40, qn41, qn42, qn43, qn45, qn47, qn48, qn49, qn50, qn51, qn52, qn53, qn57, qn58, qn59, qn60, qn61, qn62, qn63, qn91, qn93, qn97, qn99, qn100, qn103, qn104, qn112, qn113, qn115, qn116, qn118, qn119, qn121, qn124, qn173, qn177, qn240, qn255, qn295, qn352, qn353, qn533, qn999, qn1000, qn1023, qn6561, qn10000, qn20787, qn1000000, qn252645135, qn858993459, qn1000000000, qn1431655765, q_s1, q_s2, q_s3, q_s4, q_s5, iI_add, iI_sub, iI_mul, iI_neg, q_lt, q_le, q_eq, qz0, qz1, qz2, qz3, if_pos, if_neg, reduceIte, lm_11, e1, lm_10, lm_s, hG]
        · rw [o4]
          simp (disch := omega) only [qn0, qn1, qn2, qn3, qn4, qn5, qn6, qn7, qn8, qn9, qn10, qn11, qn12, qn13, qn14, qn15, qn16, qn17, qn18, qn24, qn30, qn31, qn32, qn33, qn36, qn38, qn40, qn41, qn42, qn43, qn45, qn47, qn48, qn49, qn50, qn51, qn52, qn53, qn57, qn58, qn59, qn60, qn61, qn62, qn63, qn91, qn93, qn97, qn99, qn100, qn103, qn104, qn112, qn113, qn115, qn116, qn118, qn119, qn121, qn124, qn173, qn177, qn240, qn255, qn295, qn352, qn353, qn533, qn999, qn1000, qn1023, qn6561, qn10000, qn20787, qn1000000, qn252645135, qn858993459, qn1000000000, qn1431655765, q_s1, q_s2, q_s3, q_s4, q_s5, iI_add, iI_sub, iI_mul, iI_neg, q_lt, q_le, q_eq, qz0, qz1, qz2, qz3, if_pos, if_neg, reduceIte, lm_11, e1, lm_10, lm_s, hG]
      obtain ⟨k1, k2⟩ := hA (tp_s b n q.1 + 1) (by omega)
      have hA' := hg (tp_s b n q.1 + 1) (by omega)
      have hop : ∀ x0 y0 : Int, lr_op (tp_l b n q.1) x0 y0 = 0 ∨ lr_op (tp_l b n q.1) x0 y0 = 1 := fun x0 y0 => lr_op_t (by omega) x0 y0
      match hR : A (tp_s b n q.1 + 1) with
      | .inl u =>
        obtain ⟨v, x', a', hv, k3⟩ := k1 u hR
        have hu := hA'.1 u hR
        obtain ⟨y0, hy0, rfl⟩ : ∃ y0 : Int, (y0 = 0 ∨ y0 = 1) ∧ v = iI y0 := by
          rcases hv with rfl | rfl
          · exact ⟨0, Or.inl rfl, rfl⟩
          · exact ⟨1, Or.inr rfl, rfl⟩
        rw [lr_lp_e cP hR, step _ y0 x' a' u hq hy0 k3, es _ _ _ _ hu]
        refine ⟨fun u' h => ?_, fun y h => (by cases h)⟩
        cases h
        exact ⟨hu, _, x', a', lm_trI (hop _ _), rfl⟩
      | .inr x =>
        have k3 := k2 x hR
        obtain ⟨x1', x2', x3', -, -, x6⟩ := hA'.2 x hR
        rw [lr_lp_y cP hR, step _ _ _ _ _ hq (x6 e) k3]
        exact ih (f + 1) (x.1, q.2.1 ++ x.2.1 ++ [-(tp_l b n q.1)], fun e => lr_op (tp_l b n q.1) (q.2.2 e) (x.2.2 e)) x2' (by show n < x.1 + d; omega) (by omega) (hop _ _)
    · have cP : ¬ lr_pA (tp_l b n q.1) = true := by
        simp only [lr_pA, beq_iff_eq]
        exact c
      rw [lr_lp_n cP]
      refine ⟨fun u h => (by cases h), fun y h => ?_⟩
      cases h
      refine ⟨hs.2, hq, ?_⟩
      rw [l_X12_part_18]
      simp (disch := omega) only [qn0, qn1, qn2, qn3, qn4, qn5, qn6, qn7, qn8, qn9, qn10, qn11, qn12, qn13, qn14, qn15, qn16, qn17, qn18, qn24, qn30, qn31, qn32, qn33, qn36, qn38, qn40, qn41, qn42, qn43, qn45, qn47, qn48, qn49, qn50, qn51, qn52, qn53, qn57, qn58, qn59, qn60, qn61, qn62, qn63, qn91, qn93, qn97, qn99, qn100, qn103, qn104, qn112, qn113, qn115, qn116, qn118, qn119, qn121, qn124, qn173, qn177, qn240, qn255, qn295, qn352, qn353, qn533, qn999, qn1000, qn1023, qn6561, qn10000, qn20787, qn1000000, qn252645135, qn858993459, qn1000000000, qn1431655765, q_s1, q_s2, q_s3, q_s4, q_s5, iI_add, iI_sub, iI_mul, iI_neg, q_lt, q_le, q_eq, qz0, qz1, qz2, qz3, if_pos, if_neg, reduceIte, lm_11, e1]
/-- a tail behind its first piece -/
def m_TA (G : Nat → Int32 → Int32 → gs_M → Option (Int32 × gs_M)) (x1 x2 y1 : Int32) (M2 : gs_M) : Option (Int32 × gs_M) := gs_b2 (l_X12_part_18 G x1 x2 gs_FU y1 M2) fun y12 M13 => gs_b1 (gs_ckZ y12) fun z15 => some (z15, M13)
theorem m_tA0 {G : Nat → Int32 → Int32 → gs_M → Option (Int32 × gs_M)} (x1 x2 : Int32) {v x : Int32} {a' u : Nat} (hv : lm_tr v) (hu : u ≤ 240) : m_TA G x1 x2 v (lm_m N x a' (u : Nat)) = some (v, lm_m N x a' (u : Nat)) := by
  have es : ∀ f, l_X12_part_18 G x1 x2 (f + 1) v (lm_m N x a' (u : Nat)) = some (v, lm_m N x a' (u : Nat)) := fun f => by
    rw [l_X12_part_18]
    simp (disch := omega) only [qn0, qn1, qn2, qn3, qn4, qn5, qn6, qn7, qn8, qn9, qn10, qn11, qn12, qn13, qn14, qn15, qn16, qn17, qn18, qn24, qn30, qn31, qn32, qn33, qn36, qn38, qn40, qn41, qn42, qn43, qn45, qn47, qn48, qn49, qn50, qn51, qn52, qn53, qn57, qn58, qn59, qn60, qn61, qn62, qn63, qn91, qn93, qn97, qn99, qn100, qn103, qn104, qn112, qn113, qn115, qn116, qn118, qn119, qn121, qn124, qn173, qn177, qn240, qn255, qn295, qn352, qn353, qn533, qn999, qn1000, qn1023, qn6561, qn10000, qn20787, qn1000000, qn252645135, qn858993459, qn1000000000, qn1431655765, q_s1, q_s2, q_s3, q_s4, q_s5, iI_add, iI_sub, iI_mul, iI_neg, q_lt, q_le, q_eq, qz0, qz1, qz2, qz3, if_pos, if_neg, reduceIte, lm_11]
  have es' : l_X12_part_18 G x1 x2 gs_FU v (lm_m N x a' (u : Nat)) = some (v, lm_m N x a' (u : Nat)) := es 29999
  unfold m_TA
  rcases hv with rfl | rfl
  · simp (disch := omega) only [qn0, qn1, qn2, qn3, qn4, qn5, qn6, qn7, qn8, qn9, qn10, qn11, qn12, qn13, qn14, qn15, qn16, qn17, qn18, qn24, qn30, qn31, qn32, qn33, qn36, qn38, qn40, qn41, qn42, qn43, qn45, qn47, qn48, qn49, qn50, qn51, qn52, qn53, qn57, qn58, qn59, qn60, qn61, qn62, qn63, qn91, qn93, qn97, qn99, qn100, qn103, qn104, qn112, qn113, qn115, qn116, qn118, qn119, qn121, qn124, qn173, qn177, qn240, qn255, qn295, qn352, qn353, qn533, qn999, qn1000, qn1023, qn6561, qn10000, qn20787, qn1000000, qn252645135, qn858993459, qn1000000000, qn1431655765, q_s1, q_s2, q_s3, q_s4, q_s5, iI_add, iI_sub, iI_mul, iI_neg, q_lt, q_le, q_eq, qz0, qz1, qz2, qz3, if_pos, if_neg, reduceIte, es']
  · simp (disch := omega) only [qn0, qn1, qn2, qn3, qn4, qn5, qn6, qn7, qn8, qn9, qn10, qn11, qn12, qn13, qn14, qn15, qn16, qn17, qn18, qn24, qn30, qn31, qn32, qn33, qn36, qn38, qn40, qn41, qn42, qn43, qn45, qn47, qn48, qn49, qn50, qn51, qn52, qn53, qn57, qn58, qn59, qn60, qn61, qn62, qn63, qn91, qn93, qn97, qn99, qn100, qn103, qn104, qn112, qn113, qn115, qn116, qn118, qn119, qn121, qn124, qn173, qn177, qn240, qn255, qn295, qn352, qn353, qn533, qn999, qn1000, qn1023, qn6561, qn10000, qn20787, qn1000000, qn252645135, qn858993459, qn1000000000, qn1431655765, q_s1, q_s2, q_s3, q_s4, q_s5, iI_add, iI_sub, iI_mul, iI_neg, q_lt, q_le, q_eq, qz0, qz1, qz2, qz3, if_pos, if_neg, reduceIte, es']
theorem m_tA (w : tp_w b n) (K : md_K r o b n N) {G : Nat → Int32 → Int32 → gs_M → Option (Int32 × gs_M)} {dp H : Nat} (x1 x2 : Int32) (hA : lr_mg b n N e dp lm_tr (fun Z => G 4 (iI 0) (iI 0) Z) A) (hg : lr_gd n H lr_tru A) (q : lr_Q) (h1 : q.1 ≤ n) (hq : q.2.2 e = 0 ∨ q.2.2 e = 1) : (∀ u, lr_lp b n lr_pA A 241 q = .inl u → u ≤ n ∧ ∃ v x a', lm_tr v ∧ m_TA G x1 x2 (iI (q.2.2 e)) (lm_m N (iI (dp : Int)) q.1 (-1)) = some (v, lm_m N x a' (u : Nat))) ∧ ∀ y, lr_lp b n lr_pA A 241 q = .inr y → y.1 ≤ n ∧ (y.2.2 e = 0 ∨ y.2.2 e = 1) ∧ m_TA G x1 x2 (iI (q.2.2 e)) (lm_m N (iI (dp : Int)) q.1 (-1)) = some (iI (y.2.2 e), lm_m N (iI (dp : Int)) y.1 (-1)) := by
  have w1 := w.1
  obtain ⟨k1, k2⟩ := m_lpA w K x1 x2 hA hg 241 gs_FU q h1 (by omega) (by decide) hq
  refine ⟨fun u h => ?_, fun y h => ?_⟩
  · obtain ⟨hu, v, x, a', hv, k3⟩ := k1 u h
    refine ⟨hu, v, x, a', hv, ?_⟩
    unfold m_TA
    rcases hv with rfl | rfl
    · simp (disch := omega) only [qn0, qn1, qn2, qn3, qn4, qn5, qn6, qn7, qn8, qn9, qn10, qn11, qn12, qn13, qn14, qn15, qn16, qn17, qn18, qn24, qn30, qn31, qn32, qn33, qn36, qn38, qn40, qn41, qn42, qn43, qn45, qn47, qn48, qn49, qn50, qn51, qn52, qn53, qn57, qn58, qn59, qn60, qn61, qn62, qn63, qn91, qn93, qn97, qn99, qn100, qn103, qn104, qn112, qn113, qn115, qn116, qn118, qn119, qn121, qn124, qn173, qn177, qn240, qn255, qn295, qn352, qn353, qn533, qn999, qn1000, qn1023, qn6561, qn10000, qn20787, qn1000000, qn252645135, qn858993459, qn1000000000, qn1431655765, q_s1, q_s2, q_s3, q_s4, q_s5, iI_add, iI_sub, iI_mul, iI_neg, q_lt, q_le, q_eq, qz0, qz1, qz2, qz3, if_pos, if_neg, reduceIte, k3]
    · simp (disch := omega) only [qn0, qn1, qn2, qn3, qn4, qn5, qn6, qn7, qn8, qn9, qn10, qn11, qn12, qn13, qn14, qn15, qn16, qn17, qn18, qn24, qn30, qn31, qn32, qn33, qn36, qn38, qn40, qn41, qn42, qn43, qn45, qn47, qn48, qn49, qn50, qn51, qn52, qn53, qn57, qn58, qn59, qn60, qn61, qn62, qn63, qn91, qn93, qn97, qn99, qn100, qn103, qn104, qn112, qn113, qn115, qn116, qn118, qn119, qn121, qn124, qn173, qn177, qn240, qn255, qn295, qn352, qn353, qn533, qn999, qn1000, qn1023, qn6561, qn10000, qn20787, qn1000000, qn252645135, qn858993459, qn1000000000, qn1431655765, q_s1, q_s2, q_s3, q_s4, q_s5, iI_add, iI_sub, iI_mul, iI_neg, q_lt, q_le, q_eq, qz0, qz1, qz2, qz3, if_pos, if_neg, reduceIte, k3]
  · obtain ⟨hy, ht, k3⟩ := k2 y h
    refine ⟨hy, ht, ?_⟩
    unfold m_TA
    rcases ht with ht | ht
    · rw [ht] at k3 ⊢
      simp (disch := omega) only [qn0, qn1, qn2, qn3, qn4, qn5, qn6, qn7, qn8, qn9, qn10, qn11, qn12, qn13, qn14, qn15, qn16, qn17, qn18, qn24, qn30, qn31, qn32, qn33, qn36, qn38, qn40, qn41, qn42, qn43, qn45, qn47, qn48, qn49, qn50, qn51, qn52, qn53, qn57, qn58, qn59, qn60, qn61, qn62, qn63, qn91, qn93, qn97, qn99, qn100, qn103, qn104, qn112, qn113, qn115, qn116, qn118, qn119, qn121, qn124, qn173, qn177, qn240, qn255, qn295, qn352, qn353, qn533, qn999, qn1000, qn1023, qn6561, qn10000, qn20787, qn1000000, qn252645135, qn858993459, qn1000000000, qn1431655765, q_s1, q_s2, q_s3, q_s4, q_s5, iI_add, iI_sub, iI_mul, iI_neg, q_lt, q_le, q_eq, qz0, qz1, qz2, qz3, if_pos, if_neg, reduceIte, k3]
    · rw [ht] at k3 ⊢
      simp (disch := omega) only [qn0, qn1, qn2, qn3, qn4, qn5, qn6, qn7, qn8, qn9, qn10, qn11, qn12, qn13, qn14, qn15, qn16, qn17, qn18, qn24, qn30, qn31, qn32, qn33, qn36, qn38, qn40, qn41, qn42, qn43, qn45, qn47, qn48, qn49, qn50, qn51, qn52, qn53, qn57, qn58, qn59, qn60, qn61, qn62, qn63, qn91, qn93, qn97, qn99, qn100, qn103, qn104, qn112, qn113, qn115, qn116, qn118, qn119, qn121, qn124, qn173, qn177, qn240, qn255, qn295, qn352, qn353, qn533, qn999, qn1000, qn1023, qn6561, qn10000, qn20787, qn1000000, qn252645135, qn858993459, qn1000000000, qn1431655765, q_s1, q_s2, q_s3, q_s4, q_s5, iI_add, iI_sub, iI_mul, iI_neg, q_lt, q_le, q_eq, qz0, qz1, qz2, qz3, if_pos, if_neg, reduceIte, k3]
set_option maxHeartbeats 20000000 in
theorem m_lpO (w : tp_w b n) (K : md_K r o b n N) {G : Nat → Int32 → Int32 → gs_M → Option (Int32 × gs_M)} {dp H : Nat} (x1 x2 : Int32) (hA : lr_mg b n N e dp lm_tr (fun Z => G 5 (iI 0) (iI 0) Z) A) (hg : lr_gd n H lr_tru A) : ∀ (d f : Nat) (q : lr_Q), q.1 ≤ n → n < q.1 + d → d < f → (q.2.2 e = 0 ∨ q.2.2 e = 1) → (∀ u, lr_lp b n lr_pO A d q = .inl u → u ≤ n ∧ ∃ v x a', lm_tr v ∧ l_X12_condition_7 G x1 x2 f (iI (q.2.2 e)) (lm_m N (iI (dp : Int)) q.1 (-1)) = some (v, lm_m N x a' (u : Nat))) ∧ ∀ y, lr_lp b n lr_pO A d q = .inr y → y.1 ≤ n ∧ (y.2.2 e = 0 ∨ y.2.2 e = 1) ∧ l_X12_condition_7 G x1 x2 f (iI (q.2.2 e)) (lm_m N (iI (dp : Int)) q.1 (-1)) = some (iI (y.2.2 e), lm_m N (iI (dp : Int)) y.1 (-1)) := by
  have w1 := w.1
  intro d
  induction d with
  | zero =>
    intro f q h1 h2
    omega
  | succ d ih =>
    intro f q h1 h2 h3 hq
    obtain ⟨f, rfl⟩ : ∃ k, f = k + 1 + 1 := ⟨f - 2, by omega⟩
    have hs := tp_s_b (b := b) h1
    have hl := tp_l_b (a := q.1) w
    have e1 := lm_look (x := iI (dp : Int)) (t := -1) w K h1
    have es : ∀ (v x : Int32) (a' u : Nat), u ≤ n → l_X12_condition_7 G x1 x2 (f + 1) v (lm_m N x a' (u : Nat)) = some (v, lm_m N x a' (u : Nat)) := fun v x a' u hu => by
      rw [l_X12_condition_7]
      simp (disch := omega) only [qn0, qn1, qn2, qn3, qn4, qn5, qn6, qn7, qn8, qn9, qn10, qn11, qn12, qn13, qn14, qn15, qn16, qn17, qn18, qn24, qn30, qn31, qn32, qn33, qn36, qn38, qn40, qn41, qn42, qn43, qn45, qn47, qn48, qn49, qn50, qn51, qn52, qn53, qn57, qn58, qn59, qn60, qn61, qn62, qn63, qn91, qn93, qn97, qn99, qn100, qn103, qn104, qn112, qn113, qn115, qn116, qn118, qn119, qn121, qn124, qn173, qn177, qn240, qn255, qn295, qn352, qn353, qn533, qn999, qn1000, qn1023, qn6561, qn10000, qn20787, qn1000000, qn252645135, qn858993459, qn1000000000, qn1431655765, q_s1, q_s2, q_s3, q_s4, q_s5, iI_add, iI_sub, iI_mul, iI_neg, q_lt, q_le, q_eq, qz0, qz1, qz2, qz3, if_pos, if_neg, reduceIte, lm_11]
    by_cases c : tp_l b n q.1 = 124
    · have cP : lr_pO (tp_l b n q.1) = true := by
        rw [c]
        rfl
      have step : ∀ (x0 y0 : Int) (x' : Int32) (a' : Nat) (t' : Int), (x0 = 0 ∨ x0 = 1) → (y0 = 0 ∨ y0 = 1) → G 5 (iI 0) (iI 0) (lm_m N (iI (dp : Int)) (tp_s b n q.1 + 1) (-1)) = some (iI y0, lm_m N x' a' t') → l_X12_condition_7 G x1 x2 (f + 1 + 1) (iI x0) (lm_m N (iI (dp : Int)) q.1 (-1)) = l_X12_condition_7 G x1 x2 (f + 1) (iI (lr_op (tp_l b n q.1) x0 y0)) (lm_m N x' a' t') := by
        intro x0 y0 x' a' t' hx hy hG
        rw [l_X12_condition_7, c]
        rw [c] at e1
        have o1 : lr_op 124 0 0 = 0 := by decide
        have o2 : lr_op 124 0 1 = 1 := by decide
        have o3 : lr_op 124 1 0 = 1 := by decide
        have o4 : lr_op 124 1 1 = 1 := by decide
        rcases hx with rfl | rfl <;> rcases hy with rfl | rfl
        · rw [o1]
          simp (disch := omega) only [qn0, qn1, qn2, qn3, qn4, qn5, qn6, qn7, qn8, qn9, qn10, qn11, qn12, qn13, qn14, qn15, qn16, qn17, qn18, qn24, qn30, qn31, qn32, qn33, qn36, qn38, qn40, qn41, qn42, qn43, qn45, qn47, qn48, qn49, qn50, qn51, qn52, qn53, qn57, qn58, qn59, qn60, qn61, qn62, qn63, qn91, qn93, qn97, qn99, qn100, qn103, qn104, qn112, qn113, qn115, qn116, qn118, qn119, qn121, qn124, qn173, qn177, qn240, qn255, qn295, qn352, qn353, qn533, qn999, qn1000, qn1023, qn6561, qn10000, qn20787, qn1000000, qn252645135, qn858993459, qn1000000000, qn1431655765, q_s1, q_s2, q_s3, q_s4, q_s5, iI_add, iI_sub, iI_mul, iI_neg, q_lt, q_le, q_eq, qz0, qz1, qz2, qz3, if_pos, if_neg, reduceIte, lm_11, e1, lm_10, lm_s, hG]
        · rw [o2]
          simp (disch := omega) only [qn0, qn1, qn2, qn3, qn4, qn5, qn6, qn7, qn8, qn9, qn10, qn11, qn12, qn13, qn14, qn15, qn16, qn17, qn18, qn24, qn30, qn31, qn32, qn33, qn36, qn38, qn40, qn41, qn42, qn43, qn45, qn47, qn48, qn49, qn50, qn51, qn52, qn53, qn57, qn58, qn59, qn60, qn61, qn62, qn63, qn91, qn93, qn97, qn99, qn100, qn103, qn104, qn112, qn113, qn115, qn116, qn118, qn119, qn121, qn124, qn173, qn177, qn240, qn255, qn295, qn352, qn353, qn533, qn999, qn1000, qn1023, qn6561, qn10000, qn20787, qn1000000, qn252645135, qn858993459, qn1000000000, qn1431655765, q_s1, q_s2, q_s3, q_s4, q_s5, iI_add, iI_sub, iI_mul, iI_neg, q_lt, q_le, q_eq, qz0, qz1, qz2, qz3, if_pos, if_neg, reduceIte, lm_11, e1, lm_10, lm_s, hG]
        · rw [o3]
          simp (disch := omega) only [qn0, qn1, qn2, qn3, qn4, qn5, qn6, qn7, qn8, qn9, qn10, qn11, qn12, qn13, qn14, qn15, qn16, qn17, qn18, qn24, qn30, qn31, qn32, qn33, qn36, qn38, qn40, qn41, qn42, qn43, qn45, qn47, qn48, qn49, qn50, qn51, qn52, qn53, qn57, qn58, qn59, qn60, qn61, qn62, qn63, qn91, qn93, qn97, qn99, qn100, qn103, qn104, qn112, qn113, qn115, qn116, qn118, qn119, qn121, qn124, qn173, qn177, qn240, qn255, qn295, qn352, qn353, qn533, qn999, qn1000, qn1023, qn6561, qn10000, qn20787, qn1000000, qn252645135, qn858993459, qn1000000000, qn1431655765, q_s1, q_s2, q_s3, q_s4, q_s5, iI_add, iI_sub, iI_mul, iI_neg, q_lt, q_le, q_eq, qz0, qz1, qz2, qz3, if_pos, if_neg, reduceIte, lm_11, e1, lm_10, lm_s, hG]
        · rw [o4]
          simp (disch := omega) only [qn0, qn1, qn2, qn3, qn4, qn5, qn6, qn7, qn8, qn9, qn10, qn11, qn12, qn13, qn14, qn15, qn16, qn17, qn18, qn24, qn30, qn31, qn32, qn33, qn36, qn38, qn40, qn41, qn42, qn43, qn45, qn47, qn48, qn49, qn50, qn51, qn52, qn53, qn57, qn58, qn59, qn60, qn61, qn62, qn63, qn91, qn93, qn97, qn99, qn100, qn103, qn104, qn112, qn113, qn115, qn116, qn118, qn119, qn121, qn124, qn173, qn177, qn240, qn255, qn295, qn352, qn353, qn533, qn999, qn1000, qn1023, qn6561, qn10000, qn20787, qn1000000, qn252645135, qn858993459, qn1000000000, qn1431655765, q_s1, q_s2, q_s3, q_s4, q_s5, iI_add, iI_sub, iI_mul, iI_neg, q_lt, q_le, q_eq, qz0, qz1, qz2, qz3, if_pos, if_neg, reduceIte, lm_11, e1, lm_10, lm_s, hG]
      obtain ⟨k1, k2⟩ := hA (tp_s b n q.1 + 1) (by omega)
      have hA' := hg (tp_s b n q.1 + 1) (by omega)
      have hop : ∀ x0 y0 : Int, lr_op (tp_l b n q.1) x0 y0 = 0 ∨ lr_op (tp_l b n q.1) x0 y0 = 1 := fun x0 y0 => lr_op_t (by omega) x0 y0
      match hR : A (tp_s b n q.1 + 1) with
      | .inl u =>
        obtain ⟨v, x', a', hv, k3⟩ := k1 u hR
        have hu := hA'.1 u hR
        obtain ⟨y0, hy0, rfl⟩ : ∃ y0 : Int, (y0 = 0 ∨ y0 = 1) ∧ v = iI y0 := by
          rcases hv with rfl | rfl
          · exact ⟨0, Or.inl rfl, rfl⟩
          · exact ⟨1, Or.inr rfl, rfl⟩
        rw [lr_lp_e cP hR, step _ y0 x' a' u hq hy0 k3, es _ _ _ _ hu]
        refine ⟨fun u' h => ?_, fun y h => (by cases h)⟩
        cases h
        exact ⟨hu, _, x', a', lm_trI (hop _ _), rfl⟩
      | .inr x =>
        have k3 := k2 x hR
        obtain ⟨x1', x2', x3', -, -, x6⟩ := hA'.2 x hR
        rw [lr_lp_y cP hR, step _ _ _ _ _ hq (x6 e) k3]
        exact ih (f + 1) (x.1, q.2.1 ++ x.2.1 ++ [-(tp_l b n q.1)], fun e => lr_op (tp_l b n q.1) (q.2.2 e) (x.2.2 e)) x2' (by show n < x.1 + d; omega) (by omega) (hop _ _)
    · have cP : ¬ lr_pO (tp_l b n q.1) = true := by
        simp only [lr_pO, beq_iff_eq]
        exact c
      rw [lr_lp_n cP]
      refine ⟨fun u h => (by cases h), fun y h => ?_⟩
      cases h
      refine ⟨hs.2, hq, ?_⟩
      rw [l_X12_condition_7]
      simp (disch := omega) only [qn0, qn1, qn2, qn3, qn4, qn5, qn6, qn7, qn8, qn9, qn10, qn11, qn12, qn13, qn14, qn15, qn16, qn17, qn18, qn24, qn30, qn31, qn32, qn33, qn36, qn38, qn40, qn41, qn42, qn43, qn45, qn47, qn48, qn49, qn50, qn51, qn52, qn53, qn57, qn58, qn59, qn60, qn61, qn62, qn63, qn91, qn93, qn97, qn99, qn100, qn103, qn104, qn112, qn113, qn115, qn116, qn118, qn119, qn121, qn124, qn173, qn177, qn240, qn255, qn295, qn352, qn353, qn533, qn999, qn1000, qn1023, qn6561, qn10000, qn20787, qn1000000, qn252645135, qn858993459, qn1000000000, qn1431655765, q_s1, q_s2, q_s3, q_s4, q_s5, iI_add, iI_sub, iI_mul, iI_neg, q_lt, q_le, q_eq, qz0, qz1, qz2, qz3, if_pos, if_neg, reduceIte, lm_11, e1]
/-- a tail behind its first piece -/
def m_TO (G : Nat → Int32 → Int32 → gs_M → Option (Int32 × gs_M)) (x1 x2 y1 : Int32) (M2 : gs_M) : Option (Int32 × gs_M) := gs_b2 (l_X12_condition_7 G x1 x2 gs_FU y1 M2) fun y12 M13 => gs_b1 (gs_ckZ y12) fun z15 => some (z15, M13)
theorem m_tO0 {G : Nat → Int32 → Int32 → gs_M → Option (Int32 × gs_M)} (x1 x2 : Int32) {v x : Int32} {a' u : Nat} (hv : lm_tr v) (hu : u ≤ 240) : m_TO G x1 x2 v (lm_m N x a' (u : Nat)) = some (v, lm_m N x a' (u : Nat)) := by
  have es : ∀ f, l_X12_condition_7 G x1 x2 (f + 1) v (lm_m N x a' (u : Nat)) = some (v, lm_m N x a' (u : Nat)) := fun f => by
    rw [l_X12_condition_7]
    simp (disch := omega) only [qn0, qn1, qn2, qn3, qn4, qn5, qn6, qn7, qn8, qn9, qn10, qn11, qn12, qn13, qn14, qn15, qn16, qn17, qn18, qn24, qn30, qn31, qn32, qn33, qn36, qn38, qn40, qn41, qn42, qn43, qn45, qn47, qn48, qn49, qn50, qn51, qn52, qn53, qn57, qn58, qn59, qn60, qn61, qn62, qn63, qn91, qn93, qn97, qn99, qn100, qn103, qn104, qn112, qn113, qn115, qn116, qn118, qn119, qn121, qn124, qn173, qn177, qn240, qn255, qn295, qn352, qn353, qn533, qn999, qn1000, qn1023, qn6561, qn10000, qn20787, qn1000000, qn252645135, qn858993459, qn1000000000, qn1431655765, q_s1, q_s2, q_s3, q_s4, q_s5, iI_add, iI_sub, iI_mul, iI_neg, q_lt, q_le, q_eq, qz0, qz1, qz2, qz3, if_pos, if_neg, reduceIte, lm_11]
  have es' : l_X12_condition_7 G x1 x2 gs_FU v (lm_m N x a' (u : Nat)) = some (v, lm_m N x a' (u : Nat)) := es 29999
  unfold m_TO
  rcases hv with rfl | rfl
  · simp (disch := omega) only [qn0, qn1, qn2, qn3, qn4, qn5, qn6, qn7, qn8, qn9, qn10, qn11, qn12, qn13, qn14, qn15, qn16, qn17, qn18, qn24, qn30, qn31, qn32, qn33, qn36, qn38, qn40, qn41, qn42, qn43, qn45, qn47, qn48, qn49, qn50, qn51, qn52, qn53, qn57, qn58, qn59, qn60, qn61, qn62, qn63, qn91, qn93, qn97, qn99, qn100, qn103, qn104, qn112, qn113, qn115, qn116, qn118, qn119, qn121, qn124, qn173, qn177, qn240, qn255, qn295, qn352, qn353, qn533, qn999, qn1000, qn1023, qn6561, qn10000, qn20787, qn1000000, qn252645135, qn858993459, qn1000000000, qn1431655765, q_s1, q_s2, q_s3, q_s4, q_s5, iI_add, iI_sub, iI_mul, iI_neg, q_lt, q_le, q_eq, qz0, qz1, qz2, qz3, if_pos, if_neg, reduceIte, es']
  · simp (disch := omega) only [qn0, qn1, qn2, qn3, qn4, qn5, qn6, qn7, qn8, qn9, qn10, qn11, qn12, qn13, qn14, qn15, qn16, qn17, qn18, qn24, qn30, qn31, qn32, qn33, qn36, qn38, qn40, qn41, qn42, qn43, qn45, qn47, qn48, qn49, qn50, qn51, qn52, qn53, qn57, qn58, qn59, qn60, qn61, qn62, qn63, qn91, qn93, qn97, qn99, qn100, qn103, qn104, qn112, qn113, qn115, qn116, qn118, qn119, qn121, qn124, qn173, qn177, qn240, qn255, qn295, qn352, qn353, qn533, qn999, qn1000, qn1023, qn6561, qn10000, qn20787, qn1000000, qn252645135, qn858993459, qn1000000000, qn1431655765, q_s1, q_s2, q_s3, q_s4, q_s5, iI_add, iI_sub, iI_mul, iI_neg, q_lt, q_le, q_eq, qz0, qz1, qz2, qz3, if_pos, if_neg, reduceIte, es']
theorem m_tO (w : tp_w b n) (K : md_K r o b n N) {G : Nat → Int32 → Int32 → gs_M → Option (Int32 × gs_M)} {dp H : Nat} (x1 x2 : Int32) (hA : lr_mg b n N e dp lm_tr (fun Z => G 5 (iI 0) (iI 0) Z) A) (hg : lr_gd n H lr_tru A) (q : lr_Q) (h1 : q.1 ≤ n) (hq : q.2.2 e = 0 ∨ q.2.2 e = 1) : (∀ u, lr_lp b n lr_pO A 241 q = .inl u → u ≤ n ∧ ∃ v x a', lm_tr v ∧ m_TO G x1 x2 (iI (q.2.2 e)) (lm_m N (iI (dp : Int)) q.1 (-1)) = some (v, lm_m N x a' (u : Nat))) ∧ ∀ y, lr_lp b n lr_pO A 241 q = .inr y → y.1 ≤ n ∧ (y.2.2 e = 0 ∨ y.2.2 e = 1) ∧ m_TO G x1 x2 (iI (q.2.2 e)) (lm_m N (iI (dp : Int)) q.1 (-1)) = some (iI (y.2.2 e), lm_m N (iI (dp : Int)) y.1 (-1)) := by
  have w1 := w.1
  obtain ⟨k1, k2⟩ := m_lpO w K x1 x2 hA hg 241 gs_FU q h1 (by omega) (by decide) hq
  refine ⟨fun u h => ?_, fun y h => ?_⟩
  · obtain ⟨hu, v, x, a', hv, k3⟩ := k1 u h
    refine ⟨hu, v, x, a', hv, ?_⟩
    unfold m_TO
    rcases hv with rfl | rfl
    · simp (disch := omega) only [qn0, qn1, qn2, qn3, qn4, qn5, qn6, qn7, qn8, qn9, qn10, qn11, qn12, qn13, qn14, qn15, qn16, qn17, qn18, qn24, qn30, qn31, qn32, qn33, qn36, qn38, qn40, qn41, qn42, qn43, qn45, qn47, qn48, qn49, qn50, qn51, qn52, qn53, qn57, qn58, qn59, qn60, qn61, qn62, qn63, qn91, qn93, qn97, qn99, qn100, qn103, qn104, qn112, qn113, qn115, qn116, qn118, qn119, qn121, qn124, qn173, qn177, qn240, qn255, qn295, qn352, qn353, qn533, qn999, qn1000, qn1023, qn6561, qn10000, qn20787, qn1000000, qn252645135, qn858993459, qn1000000000, qn1431655765, q_s1, q_s2, q_s3, q_s4, q_s5, iI_add, iI_sub, iI_mul, iI_neg, q_lt, q_le, q_eq, qz0, qz1, qz2, qz3, if_pos, if_neg, reduceIte, k3]
    · simp (disch := omega) only [qn0, qn1, qn2, qn3, qn4, qn5, qn6, qn7, qn8, qn9, qn10, qn11, qn12, qn13, qn14, qn15, qn16, qn17, qn18, qn24, qn30, qn31, qn32, qn33, qn36, qn38, qn40, qn41, qn42, qn43, qn45, qn47, qn48, qn49, qn50, qn51, qn52, qn53, qn57, qn58, qn59, qn60, qn61, qn62, qn63, qn91, qn93, qn97, qn99, qn100, qn103, qn104, qn112, qn113, qn115, qn116, qn118, qn119, qn121, qn124, qn173, qn177, qn240, qn255, qn295, qn352, qn353, qn533, qn999, qn1000, qn1023, qn6561, qn10000, qn20787, qn1000000, qn252645135, qn858993459, qn1000000000, qn1431655765, q_s1, q_s2, q_s3, q_s4, q_s5, iI_add, iI_sub, iI_mul, iI_neg, q_lt, q_le, q_eq, qz0, qz1, qz2, qz3, if_pos, if_neg, reduceIte, k3]
  · obtain ⟨hy, ht, k3⟩ := k2 y h
    refine ⟨hy, ht, ?_⟩
    unfold m_TO
    rcases ht with ht | ht
    · rw [ht] at k3 ⊢
      simp (disch := omega) only [qn0, qn1, qn2, qn3, qn4, qn5, qn6, qn7, qn8, qn9, qn10, qn11, qn12, qn13, qn14, qn15, qn16, qn17, qn18, qn24, qn30, qn31, qn32, qn33, qn36, qn38, qn40, qn41, qn42, qn43, qn45, qn47, qn48, qn49, qn50, qn51, qn52, qn53, qn57, qn58, qn59, qn60, qn61, qn62, qn63, qn91, qn93, qn97, qn99, qn100, qn103, qn104, qn112, qn113, qn115, qn116, qn118, qn119, qn121, qn124, qn173, qn177, qn240, qn255, qn295, qn352, qn353, qn533, qn999, qn1000, qn1023, qn6561, qn10000, qn20787, qn1000000, qn252645135, qn858993459, qn1000000000, qn1431655765, q_s1, q_s2, q_s3, q_s4, q_s5, iI_add, iI_sub, iI_mul, iI_neg, q_lt, q_le, q_eq, qz0, qz1, qz2, qz3, if_pos, if_neg, reduceIte, k3]
    · rw [ht] at k3 ⊢
      simp (disch := omega) only [qn0, qn1, qn2, qn3, qn4, qn5, qn6, qn7, qn8, qn9, qn10, qn11, qn12, qn13, qn14, qn15, qn16, qn17, qn18, qn24, qn30, qn31, qn32, qn33, qn36, qn38, qn40, qn41, qn42, qn43, qn45, qn47, qn48, qn49, qn50, qn51, qn52, qn53, qn57, qn58, qn59, qn60, qn61, qn62, qn63, qn91, qn93, qn97, qn99, qn100, qn103, qn104, qn112, qn113, qn115, qn116, qn118, qn119, qn121, qn124, qn173, qn177, qn240, qn255, qn295, qn352, qn353, qn533, qn999, qn1000, qn1023, qn6561, qn10000, qn20787, qn1000000, qn252645135, qn858993459, qn1000000000, qn1431655765, q_s1, q_s2, q_s3, q_s4, q_s5, iI_add, iI_sub, iI_mul, iI_neg, q_lt, q_le, q_eq, qz0, qz1, qz2, qz3, if_pos, if_neg, reduceIte, k3]
theorem pt_0 (G : Nat → Int32 → Int32 → gs_M → Option (Int32 × gs_M)) (M : gs_M) : f_X12_part G M (iI 0) (iI 0) = gs_b2 (G 4 (iI 0) (iI 0) M) fun y1 M2 => m_TA G (iI 0) (iI 0) y1 M2 := by
  have : f_X12_part G M (iI 0) (iI 0) = gs_b2 (if iI 0 = (0 : Int32) then gs_b2 (G 4 0 0 M) fun v6 M7 => some (v6, M7) else gs_b2 (G 3 (1 : Int32) (iI 0) M) fun v9 M10 => some (v9, M10)) fun y1 M2 => m_TA G (iI 0) (iI 0) y1 M2 := rfl
  rw [this, if_pos (show iI 0 = (0 : Int32) from rfl)]
  show gs_b2 (gs_b2 (G 4 (iI 0) (iI 0) M) fun v6 M7 => some (v6, M7)) _ = _
  cases G 4 (iI 0) (iI 0) M with
  | none => rfl
  | some x => rfl
theorem pt_1 (G : Nat → Int32 → Int32 → gs_M → Option (Int32 × gs_M)) (M : gs_M) (v : Int32) : f_X12_part G M (iI 1) v = gs_b2 (G 3 (iI 1) v M) fun y1 M2 => m_TA G (iI 1) v y1 M2 := by
  have : f_X12_part G M (iI 1) v = gs_b2 (if iI 1 = (0 : Int32) then gs_b2 (G 4 0 0 M) fun v6 M7 => some (v6, M7) else gs_b2 (G 3 (1 : Int32) v M) fun v9 M10 => some (v9, M10)) fun y1 M2 => m_TA G (iI 1) v y1 M2 := rfl
  rw [this, if_neg (by decide)]
  show gs_b2 (gs_b2 (G 3 (iI 1) v M) fun v6 M7 => some (v6, M7)) _ = _
  cases G 3 (iI 1) v M with
  | none => rfl
  | some x => rfl
theorem cd_0 (G : Nat → Int32 → Int32 → gs_M → Option (Int32 × gs_M)) (M : gs_M) (x1 v : Int32) : f_X12_condition G M x1 v = gs_b2 (G 5 x1 v M) fun y1 M2 => m_TO G x1 v y1 M2 := rfl
theorem m_part0 (w : tp_w b n) (K : md_K r o b n N) {G : Nat → Int32 → Int32 → gs_M → Option (Int32 × gs_M)} {dp H : Nat} (hA : lr_mg b n N e dp lm_tr (fun Z => G 4 (iI 0) (iI 0) Z) A) (hg : lr_gd n H lr_tru A) : lr_mg b n N e dp lm_tr (fun Z => f_X12_part G Z (iI 0) (iI 0)) (lr_ch b n lr_pA A) := by
  intro a ha
  have w1 := w.1
  obtain ⟨k1, k2⟩ := hA a ha
  have hg' := hg a ha
  unfold lr_ch
  match hR : A a with
  | .inl u =>
    obtain ⟨v, x', a', hv, k3⟩ := k1 u hR
    have k3' : G 4 (iI 0) (iI 0) (lm_m N (iI (dp : Int)) a (-1)) = some (v, lm_m N x' a' (u : Nat)) := k3
    have hu := hg'.1 u hR
    refine ⟨fun u' h => ?_, fun y h => (by cases h)⟩
    cases h
    refine ⟨v, x', a', hv, ?_⟩
    simp only [pt_0]
    rw [k3', q_s2]
    exact m_tA0 _ _ hv (by omega)
  | .inr q =>
    have k3 : G 4 (iI 0) (iI 0) (lm_m N (iI (dp : Int)) a (-1)) = some (iI (q.2.2 e), lm_m N (iI (dp : Int)) q.1 (-1)) := k2 q hR
    obtain ⟨q1, q2, q3, -, -, q6⟩ := hg'.2 q hR
    obtain ⟨m1, m2⟩ := m_tA w K (iI 0) (iI 0) hA hg q q2 (q6 e)
    have ee : f_X12_part G (lm_m N (iI (dp : Int)) a (-1)) (iI 0) (iI 0) = m_TA G (iI 0) (iI 0) (iI (q.2.2 e)) (lm_m N (iI (dp : Int)) q.1 (-1)) := by
      rw [pt_0, k3, q_s2]
    simp only [ee]
    exact ⟨fun u h => (m1 u h).2, fun y h => (m2 y h).2.2⟩
theorem m_cond0 (w : tp_w b n) (K : md_K r o b n N) {G : Nat → Int32 → Int32 → gs_M → Option (Int32 × gs_M)} {dp H : Nat} (hA : lr_mg b n N e dp lm_tr (fun Z => G 5 (iI 0) (iI 0) Z) A) (hg : lr_gd n H lr_tru A) : lr_mg b n N e dp lm_tr (fun Z => f_X12_condition G Z (iI 0) (iI 0)) (lr_ch b n lr_pO A) := by
  intro a ha
  have w1 := w.1
  obtain ⟨k1, k2⟩ := hA a ha
  have hg' := hg a ha
  unfold lr_ch
  match hR : A a with
  | .inl u =>
    obtain ⟨v, x', a', hv, k3⟩ := k1 u hR
    have k3' : G 5 (iI 0) (iI 0) (lm_m N (iI (dp : Int)) a (-1)) = some (v, lm_m N x' a' (u : Nat)) := k3
    have hu := hg'.1 u hR
    refine ⟨fun u' h => ?_, fun y h => (by cases h)⟩
    cases h
    refine ⟨v, x', a', hv, ?_⟩
    simp only [cd_0]
    rw [k3', q_s2]
    exact m_tO0 _ _ hv (by omega)
  | .inr q =>
    have k3 : G 5 (iI 0) (iI 0) (lm_m N (iI (dp : Int)) a (-1)) = some (iI (q.2.2 e), lm_m N (iI (dp : Int)) q.1 (-1)) := k2 q hR
    obtain ⟨q1, q2, q3, -, -, q6⟩ := hg'.2 q hR
    obtain ⟨m1, m2⟩ := m_tO w K (iI 0) (iI 0) hA hg q q2 (q6 e)
    have ee : f_X12_condition G (lm_m N (iI (dp : Int)) a (-1)) (iI 0) (iI 0) = m_TO G (iI 0) (iI 0) (iI (q.2.2 e)) (lm_m N (iI (dp : Int)) q.1 (-1)) := by
      rw [cd_0, k3, q_s2]
    simp only [ee]
    exact ⟨fun u h => (m1 u h).2, fun y h => (m2 y h).2.2⟩
def lr_c1 (b : Nat → Int) (n : Nat) (S U : Nat → lr_R) (q : lr_Q) : lr_R := match lr_cm b n S q with
  | .inl e => .inl e
  | .inr y => lr_lp b n lr_pA U 241 y
def lr_c2 (b : Nat → Int) (n : Nat) (S U : Nat → lr_R) (q : lr_Q) : lr_R := match lr_cm b n S q with
  | .inl e => .inl e
  | .inr y => lr_tl b n U y
theorem m_part1 (w : tp_w b n) (K : md_K r o b n N) {G : Nat → Int32 → Int32 → gs_M → Option (Int32 × gs_M)} {dp H H2 : Nat} (hC : lr_mq b n N e dp (fun v Z => G 3 (iI 1) v Z) (lr_cm b n S)) (hS : lr_gd n H2 lr_num S) (hA : lr_mg b n N e dp lm_tr (fun Z => G 4 (iI 0) (iI 0) Z) U) (hg : lr_gd n H lr_tru U) : ∀ q : lr_Q, q.1 ≤ n → (-2147483648 ≤ q.2.2 e ∧ q.2.2 e ≤ 2147483647) → (∀ u, lr_c1 b n S U q = .inl u → u ≤ n ∧ ∃ v x a', lm_tr v ∧ f_X12_part G (lm_m N (iI (dp : Int)) q.1 (-1)) (iI 1) (iI (q.2.2 e)) = some (v, lm_m N x a' (u : Nat))) ∧ ∀ y, lr_c1 b n S U q = .inr y → y.1 ≤ n ∧ (y.2.2 e = 0 ∨ y.2.2 e = 1) ∧ f_X12_part G (lm_m N (iI (dp : Int)) q.1 (-1)) (iI 1) (iI (q.2.2 e)) = some (iI (y.2.2 e), lm_m N (iI (dp : Int)) y.1 (-1)) := by
  intro q h1 hq
  have w1 := w.1
  obtain ⟨k1, k2⟩ := hC q h1 hq
  have hb := lr_cm_b (b := b) w hS h1
  unfold lr_c1
  match hR : lr_cm b n S q with
  | .inl u =>
    obtain ⟨v, x', a', hv, k3⟩ := k1 u hR
    have k3' : G 3 (iI 1) (iI (q.2.2 e)) (lm_m N (iI (dp : Int)) q.1 (-1)) = some (v, lm_m N x' a' (u : Nat)) := k3
    have hu := hb.1 u hR
    refine ⟨fun u' h => ?_, fun y h => (by cases h)⟩
    cases h
    refine ⟨hu, v, x', a', hv, ?_⟩
    rw [pt_1, k3', q_s2]
    exact m_tA0 _ _ hv (by omega)
  | .inr y =>
    have k3 : G 3 (iI 1) (iI (q.2.2 e)) (lm_m N (iI (dp : Int)) q.1 (-1)) = some (iI (y.2.2 e), lm_m N (iI (dp : Int)) y.1 (-1)) := k2 y hR
    obtain ⟨q1, q2, q6⟩ := hb.2 y hR
    have ee : f_X12_part G (lm_m N (iI (dp : Int)) q.1 (-1)) (iI 1) (iI (q.2.2 e)) = m_TA G (iI 1) (iI (q.2.2 e)) (iI (y.2.2 e)) (lm_m N (iI (dp : Int)) y.1 (-1)) := by
      rw [pt_1, k3, q_s2]
    simp only [ee]
    exact m_tA w K (iI 1) (iI (q.2.2 e)) hA hg y q2 (q6 e)
theorem m_cond1 (w : tp_w b n) (K : md_K r o b n N) {G : Nat → Int32 → Int32 → gs_M → Option (Int32 × gs_M)} {dp H : Nat} (hP : ∀ q : lr_Q, q.1 ≤ n → (-2147483648 ≤ q.2.2 e ∧ q.2.2 e ≤ 2147483647) → (∀ u, lr_c1 b n S U q = .inl u → u ≤ n ∧ ∃ v x a', lm_tr v ∧ G 5 (iI 1) (iI (q.2.2 e)) (lm_m N (iI (dp : Int)) q.1 (-1)) = some (v, lm_m N x a' (u : Nat))) ∧ ∀ y, lr_c1 b n S U q = .inr y → y.1 ≤ n ∧ (y.2.2 e = 0 ∨ y.2.2 e = 1) ∧ G 5 (iI 1) (iI (q.2.2 e)) (lm_m N (iI (dp : Int)) q.1 (-1)) = some (iI (y.2.2 e), lm_m N (iI (dp : Int)) y.1 (-1))) (hA : lr_mg b n N e dp lm_tr (fun Z => G 5 (iI 0) (iI 0) Z) (lr_ch b n lr_pA U)) (hg : lr_gd n H lr_tru (lr_ch b n lr_pA U)) : lr_mq b n N e dp (fun v Z => f_X12_condition G Z (iI 1) v) (lr_c2 b n S U) := by
  intro q h1 hq
  have w1 := w.1
  obtain ⟨k1, k2⟩ := hP q h1 hq
  have e2 : lr_c2 b n S U q = (match lr_c1 b n S U q with | .inl e => .inl e | .inr x => lr_lp b n lr_pO (lr_ch b n lr_pA U) 241 x) := by
    unfold lr_c2 lr_c1 lr_tl
    cases lr_cm b n S q <;> rfl
  rw [e2]
  match hR : lr_c1 b n S U q with
  | .inl u =>
    obtain ⟨hu, v, x', a', hv, k3⟩ := k1 u hR
    refine ⟨fun u' h => ?_, fun y h => (by cases h)⟩
    cases h
    refine ⟨v, x', a', hv, ?_⟩
    simp only [cd_0]
    rw [k3, q_s2]
    exact m_tO0 _ _ hv (by omega)
  | .inr y =>
    obtain ⟨hy, ht, k3⟩ := k2 y hR
    obtain ⟨m1, m2⟩ := m_tO w K (iI 1) (iI (q.2.2 e)) hA hg y hy ht
    have ee : f_X12_condition G (lm_m N (iI (dp : Int)) q.1 (-1)) (iI 1) (iI (q.2.2 e)) = m_TO G (iI 1) (iI (q.2.2 e)) (iI (y.2.2 e)) (lm_m N (iI (dp : Int)) y.1 (-1)) := by
      rw [cd_0, k3, q_s2]
    simp only [ee]
    exact ⟨fun u h => (m1 u h).2, fun y h => (m2 y h).2.2⟩
theorem lr_sc_t (w : tp_w b n) {H : Nat} (hg : lr_gd n H lr_num S) : ∀ a, a ≤ n → ∀ q, lr_sc b n S a = .inr q → lr_tru q.2.2 := by
  intro a ha q h
  unfold lr_sc at h
  match hR : S a with
  | .inl u =>
    rw [hR] at h
    cases h
  | .inr x =>
    rw [hR] at h
    exact ((lr_cm_b (b := b) w hg ((hg a ha).2 x hR).2.1).2 q h).2.2
theorem m_C3 (w : tp_w b n) (K : md_K r o b n N) (he : lm_e e N) {k dp d : Nat} (hk : k + dp = 6) (hd : 3 * k + 4 ≤ d) : lr_mg b n N e dp lm_tr (fun Z => g_1 d 3 (iI 0) (iI 0) Z) (lr_sc b n (lr_S b n k)) ∧ lr_mq b n N e dp (fun v Z => g_1 d 3 (iI 1) v Z) (lr_cm b n (lr_S b n k)) := by
  obtain ⟨d, rfl⟩ : ∃ m, d = m + 1 := ⟨d - 1, by omega⟩
  exact ⟨m_cm0 w K he (m_S w K he k dp d hk (by omega)) (lr_S_g w k), m_cm1 w K he (m_S w K he k dp d hk (by omega)) (lr_S_g w k)⟩
theorem m_UtoC (w : tp_w b n) (K : md_K r o b n N) (he : lm_e e N) {k dp : Nat} (hU : ∀ d, 3 * k + 5 ≤ d → lr_mg b n N e dp lm_tr (fun Z => g_1 d 4 (iI 0) (iI 0) Z) (lr_U b n k)) : ∀ d, 3 * k + 7 ≤ d → lr_mg b n N e dp lm_tr (fun Z => g_1 d 6 (iI 0) (iI 0) Z) (lr_C b n k) := by
  have hg := (lr_UC_g (b := b) w k).1
  intro d hd
  obtain ⟨d, rfl⟩ : ∃ m, d = m + 1 + 1 := ⟨d - 2, by omega⟩
  have h5 : lr_mg b n N e dp lm_tr (fun Z => g_1 (d + 1) 5 (iI 0) (iI 0) Z) (lr_ch b n lr_pA (lr_U b n k)) := m_part0 w K (hU d (by omega)) hg
  rw [lr_C_eq]
  exact m_cond0 w K h5 (lr_ch_g w lr_pA_h lr_pA_v hg)
theorem m_U (w : tp_w b n) (K : md_K r o b n N) (he : lm_e e N) : ∀ (k dp d : Nat), k + dp = 6 → 3 * k + 5 ≤ d → lr_mg b n N e dp lm_tr (fun Z => g_1 d 4 (iI 0) (iI 0) Z) (lr_U b n k) := by
  intro k
  induction k with
  | zero =>
    intro dp d hk hd
    obtain ⟨d, rfl⟩ : ∃ m, d = m + 1 := ⟨d - 1, by omega⟩
    exact m_unit (H := 0) w K (G := g_1 d) (m_C3 w K he (k := 0) hk (by omega)).1 (fun a ha => lr_S_s 0 ha) (lr_sc_t w (lr_S_g w 0)) (Or.inl ⟨by omega, rfl⟩)
  | succ k ih =>
    intro dp d hk hd
    obtain ⟨d, rfl⟩ : ∃ m, d = m + 1 := ⟨d - 1, by omega⟩
    have h6 := m_UtoC w K he (k := k) (dp := dp + 1) (fun d hd => ih (dp + 1) d (by omega) hd) d (by omega)
    have h4 := ih (dp + 1) d (by omega) (by omega)
    have hg := lr_UC_g (b := b) w k
    exact m_unit (H := 6 + 2 * k) w K (G := g_1 d) (m_C3 w K he (k := k + 1) hk (by omega)).1 (fun a ha => lr_S_s (k + 1) ha) (lr_sc_t w (lr_S_g w (k + 1))) (Or.inr ⟨by omega, lr_UC b n k, rfl, h4, h6, lr_gd_le hg.1 (by omega), hg.2⟩)
theorem m_C6 (w : tp_w b n) (K : md_K r o b n N) (he : lm_e e N) : lr_mg b n N e 0 lm_tr (fun Z => g_1 64 6 (iI 0) (iI 0) Z) (lr_C b n 6) := m_UtoC w K he (fun d hd => m_U w K he 6 0 d rfl hd) 64 (by decide)
theorem m_C61 (w : tp_w b n) (K : md_K r o b n N) (he : lm_e e N) : lr_mq b n N e 0 (fun v Z => g_1 64 6 (iI 1) v Z) (lr_c2 b n (lr_S b n 6) (lr_U b n 6)) := by
  have hg := (lr_UC_g (b := b) w 6).1
  have h5 : lr_mg b n N e 0 lm_tr (fun Z => g_1 63 5 (iI 0) (iI 0) Z) (lr_ch b n lr_pA (lr_U b n 6)) := m_part0 w K (m_U w K he 6 0 62 rfl (by decide)) hg
  exact m_cond1 w K (G := g_1 63) (m_part1 w K (G := g_1 62) (m_C3 w K he (k := 6) (dp := 0) (d := 62) rfl (by decide)).2 (lr_S_g w 6) (m_U w K he 6 0 62 rfl (by decide)) hg) h5 (lr_ch_g w lr_pA_h lr_pA_v hg)
end Law22
