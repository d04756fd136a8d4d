/-! chains of numbers read by the class -/
section Law5
variable {b : Nat → Int} {n r : Nat} {M : gs_M} {A : Nat → lr_R} {P : Int → Bool}
theorem lr_lp_y {d : Nat} {q x : lr_Q} (c : P (tp_l b n q.1) = true) (hR : A (tp_s b n q.1 + 1) = .inr x) : lr_lp b n P A (d + 1) q = lr_lp b n P A d (x.1, q.2.1 ++ x.2.1 ++ [-(tp_l b n q.1)], fun e => lr_op (tp_l b n q.1) (q.2.2 e) (x.2.2 e)) := by simp only [lr_lp, if_pos c, hR]
theorem lr_lp_e {d u : Nat} {q : lr_Q} (c : P (tp_l b n q.1) = true) (hR : A (tp_s b n q.1 + 1) = .inl u) : lr_lp b n P A (d + 1) q = .inl u := by simp only [lr_lp, if_pos c, hR]
theorem lr_lp_n {d : Nat} {q : lr_Q} (c : ¬ P (tp_l b n q.1) = true) : lr_lp b n P A (d + 1) q = .inr (tp_s b n q.1, q.2) := by simp only [lr_lp, if_neg c]
theorem c_lpS (w : tp_w b n) (hr : lr_r r) (K : tp_K b n M) (hM : M 104 1 = nI r) {G : Nat → Int32 → gs_M → Option (Int32 × gs_M)} {x0 : Int32} {H : Nat} {Pv : lr_V → Prop} (hA : lr_cg b n r M (fun Z => G 1 x0 Z) A) (hg : lr_gd n H Pv A) : ∀ (d i f : Nat) (q : lr_Q) (N : gs_M) (pre : List Int), q.1 ≤ n → lr_X r M N → lr_K r (pre ++ q.2.1) N → (pre ++ q.2.1).length ≤ q.1 → n < q.1 + d → i < q.1 → d < f → ∃ N' a', lr_X r M N' ∧ (∀ e, lr_lp b n lr_pS A d q = .inl e → lr_cnt r N' ∧ l_X3_readSum_8 G x0 f (iI 1) (iI i) (tp_m N q.1 (-1)) = some (iI 0, tp_m N' a' e)) ∧ ∀ y, lr_lp b n lr_pS A d q = .inr y → lr_K r (pre ++ y.2.1) N' ∧ l_X3_readSum_8 G x0 f (iI 1) (iI i) (tp_m N q.1 (-1)) = some (iI 1, tp_m N' y.1 (-1)) := by
  have w1 := w.1
  intro d
  induction d with
  | zero =>
    intro i f q N pre h1 h2 h3 h4 h5
    omega
  | succ d ih =>
    intro i f q N pre h1 h2 h3 h4 h5 h6 h7
    obtain ⟨f, rfl⟩ : ∃ k, f = k + 1 + 1 := ⟨f - 2, by omega⟩
    have KN := h2.K hr K
    have hs := tp_s_b (b := b) h1
    have hl := tp_l_b (a := q.1) w
    have e1 := c_look (t := -1) w KN h1
    have es : ∀ Z, l_X3_readSum_8 G x0 (f + 1) (iI 0) (iI ((i : Int) + 1)) Z = some (iI 0, Z) := fun Z => by
      simp only [l_X3_readSum_8]
      by_cases c3 : 240 ≤ (i : Int) + 1
      · simp (disch := omega) only [qn0, qn1, qn2, qn3, qn4, qn5, qn6, qn7, qn8, qn9, qn10, qn11, qn12, qn13, qn14, qn15, qn16, qn17, qn18, qn24, qn30, qn31, qn32, qn33, qn36, qn38, qn40, qn41, qn42, qn43, qn45, qn47, qn48, qn49, qn50, qn51, qn52, qn53, qn57, qn58, qn59, qn60, qn61, qn62, qn63, qn91, qn93, qn97, qn99, qn100, qn103, qn104, qn112, qn113, qn115, qn116, qn118, qn119, qn121, qn124, qn173, qn177, qn240, qn255, qn295, qn352, qn353, qn533, qn999, qn1000, qn1023, qn6561, qn10000, qn20787, qn1000000, qn252645135, qn858993459, qn1000000000, qn1431655765, q_s1, q_s2, q_s3, q_s4, q_s5, iI_add, iI_sub, iI_mul, iI_neg, q_lt, q_le, q_eq, qz0, qz1, qz2, qz3, if_pos, if_neg, reduceIte]
      · simp (disch := omega) only [qn0, qn1, qn2, qn3, qn4, qn5, qn6, qn7, qn8, qn9, qn10, qn11, qn12, qn13, qn14, qn15, qn16, qn17, qn18, qn24, qn30, qn31, qn32, qn33, qn36, qn38, qn40, qn41, qn42, qn43, qn45, qn47, qn48, qn49, qn50, qn51, qn52, qn53, qn57, qn58, qn59, qn60, qn61, qn62, qn63, qn91, qn93, qn97, qn99, qn100, qn103, qn104, qn112, qn113, qn115, qn116, qn118, qn119, qn121, qn124, qn173, qn177, qn240, qn255, qn295, qn352, qn353, qn533, qn999, qn1000, qn1023, qn6561, qn10000, qn20787, qn1000000, qn252645135, qn858993459, qn1000000000, qn1431655765, q_s1, q_s2, q_s3, q_s4, q_s5, iI_add, iI_sub, iI_mul, iI_neg, q_lt, q_le, q_eq, qz0, qz1, qz2, qz3, if_pos, if_neg, reduceIte]
    by_cases c : tp_l b n q.1 = 43
    · have cP : lr_pS (tp_l b n q.1) = true := by rw [c]; rfl
      have e2 := c_step1 (t := -1) w KN (a := tp_s b n q.1) (by omega)
      obtain ⟨N1, a1, k0, k1, k2⟩ := hA (tp_s b n q.1 + 1) N (pre ++ q.2.1) (by omega) h2 h3 (by omega)
      have eW : ∀ a' t', gs_ckW (tp_m N1 a' t' 104 1).toNatClampNeg = some r := fun a' t' => c_ckW hr hM k0
      match hR : A (tp_s b n q.1 + 1) with
      | .inl u =>
        obtain ⟨k3, k4⟩ := k1 u hR
        obtain ⟨N2, p1, p2, p3, -⟩ := c_lput0 (a := a1) (t := (u : Int)) hr k3 (iI (-43))
        rw [lr_lp_e cP hR]
        refine ⟨N2, a1, k0.tr p3, fun e h => ?_, fun y h => (by cases h)⟩
        cases h
        refine ⟨p2, ?_⟩
        rw [l_X3_readSum_8]
        simp (disch := omega) only [qn0, qn1, qn2, qn3, qn4, qn5, qn6, qn7, qn8, qn9, qn10, qn11, qn12, qn13, qn14, qn15, qn16, qn17, qn18, qn24, qn30, qn31, qn32, qn33, qn36, qn38, qn40, qn41, qn42, qn43, qn45, qn47, qn48, qn49, qn50, qn51, qn52, qn53, qn57, qn58, qn59, qn60, qn61, qn62, qn63, qn91, qn93, qn97, qn99, qn100, qn103, qn104, qn112, qn113, qn115, qn116, qn118, qn119, qn121, qn124, qn173, qn177, qn240, qn255, qn295, qn352, qn353, qn533, qn999, qn1000, qn1023, qn6561, qn10000, qn20787, qn1000000, qn252645135, qn858993459, qn1000000000, qn1431655765, q_s1, q_s2, q_s3, q_s4, q_s5, iI_add, iI_sub, iI_mul, iI_neg, q_lt, q_le, q_eq, qz0, qz1, qz2, qz3, if_pos, if_neg, reduceIte, e1, c, e2, k4, eW, p1, es]
      | .inr x =>
        obtain ⟨k3, k4⟩ := k2 x hR
        obtain ⟨x1, x2, x3, -⟩ := (hg (tp_s b n q.1 + 1) (by omega)).2 x hR
        have hlen : (pre ++ q.2.1 ++ x.2.1).length < x.1 := by
          rw [List.length_append]
          omega
        obtain ⟨N2, p1, p2, p3⟩ := c_lput (a := x.1) (t := -1) hr k3 (by omega) (-43)
        rw [lr_lp_y cP hR]
        have ea : pre ++ (q.2.1 ++ x.2.1 ++ [-(tp_l b n q.1)]) = pre ++ q.2.1 ++ x.2.1 ++ [-43] := by rw [c]; simp only [List.append_assoc]
        obtain ⟨N3, a3, m1, m2, m3⟩ := ih (i + 1) (f + 1) (x.1, q.2.1 ++ x.2.1 ++ [-(tp_l b n q.1)], fun e => lr_op (tp_l b n q.1) (q.2.2 e) (x.2.2 e)) N2 pre x2 (k0.tr p3) (by rw [ea]; exact p2) (by
          rw [ea, List.length_append]
          simp only [List.length_cons, List.length_nil]
          show (pre ++ q.2.1 ++ x.2.1).length + 1 ≤ x.1
          omega) (by show n < x.1 + d; omega) (by show i + 1 < x.1; omega) (by omega)
        have e5 : l_X3_readSum_8 G x0 (f + 1 + 1) (iI 1) (iI i) (tp_m N q.1 (-1)) = l_X3_readSum_8 G x0 (f + 1) (iI 1) (iI ((i + 1 : Nat) : Int)) (tp_m N2 x.1 (-1)) := by
          rw [l_X3_readSum_8]
          simp (disch := omega) only [qn0, qn1, qn2, qn3, qn4, qn5, qn6, qn7, qn8, qn9, qn10, qn11, qn12, qn13, qn14, qn15, qn16, qn17, qn18, qn24, qn30, qn31, qn32, qn33, qn36, qn38, qn40, qn41, qn42, qn43, qn45, qn47, qn48, qn49, qn50, qn51, qn52, qn53, qn57, qn58, qn59, qn60, qn61, qn62, qn63, qn91, qn93, qn97, qn99, qn100, qn103, qn104, qn112, qn113, qn115, qn116, qn118, qn119, qn121, qn124, qn173, qn177, qn240, qn255, qn295, qn352, qn353, qn533, qn999, qn1000, qn1023, qn6561, qn10000, qn20787, qn1000000, qn252645135, qn858993459, qn1000000000, qn1431655765, q_s1, q_s2, q_s3, q_s4, q_s5, iI_add, iI_sub, iI_mul, iI_neg, q_lt, q_le, q_eq, qz0, qz1, qz2, qz3, if_pos, if_neg, reduceIte, e1, c, e2, k4, eW, p1]
          rfl
        rw [e5]
        exact ⟨N3, a3, m1, m2, m3⟩
    · by_cases c2 : tp_l b n q.1 = 45
      · have cP : lr_pS (tp_l b n q.1) = true := by rw [c2]; rfl
        have e2 := c_step1 (t := -1) w KN (a := tp_s b n q.1) (by omega)
        obtain ⟨N1, a1, k0, k1, k2⟩ := hA (tp_s b n q.1 + 1) N (pre ++ q.2.1) (by omega) h2 h3 (by omega)
        have eW : ∀ a' t', gs_ckW (tp_m N1 a' t' 104 1).toNatClampNeg = some r := fun a' t' => c_ckW hr hM k0
        match hR : A (tp_s b n q.1 + 1) with
        | .inl u =>
          obtain ⟨k3, k4⟩ := k1 u hR
          obtain ⟨N2, p1, p2, p3, -⟩ := c_lput0 (a := a1) (t := (u : Int)) hr k3 (iI (-45))
          rw [lr_lp_e cP hR]
          refine ⟨N2, a1, k0.tr p3, fun e h => ?_, fun y h => (by cases h)⟩
          cases h
          refine ⟨p2, ?_⟩
          rw [l_X3_readSum_8]
          simp (disch := omega) only [qn0, qn1, qn2, qn3, qn4, qn5, qn6, qn7, qn8, qn9, qn10, qn11, qn12, qn13, qn14, qn15, qn16, qn17, qn18, qn24, qn30, qn31, qn32, qn33, qn36, qn38, qn40, qn41, qn42, qn43, qn45, qn47, qn48, qn49, qn50, qn51, qn52, qn53, qn57, qn58, qn59, qn60, qn61, qn62, qn63, qn91, qn93, qn97, qn99, qn100, qn103, qn104, qn112, qn113, qn115, qn116, qn118, qn119, qn121, qn124, qn173, qn177, qn240, qn255, qn295, qn352, qn353, qn533, qn999, qn1000, qn1023, qn6561, qn10000, qn20787, qn1000000, qn252645135, qn858993459, qn1000000000, qn1431655765, q_s1, q_s2, q_s3, q_s4, q_s5, iI_add, iI_sub, iI_mul, iI_neg, q_lt, q_le, q_eq, qz0, qz1, qz2, qz3, if_pos, if_neg, reduceIte, e1, c2, e2, k4, eW, p1, es]
        | .inr x =>
          obtain ⟨k3, k4⟩ := k2 x hR
          obtain ⟨x1, x2, x3, -⟩ := (hg (tp_s b n q.1 + 1) (by omega)).2 x hR
          have hlen : (pre ++ q.2.1 ++ x.2.1).length < x.1 := by
            rw [List.length_append]
            omega
          obtain ⟨N2, p1, p2, p3⟩ := c_lput (a := x.1) (t := -1) hr k3 (by omega) (-45)
          rw [lr_lp_y cP hR]
          have ea : pre ++ (q.2.1 ++ x.2.1 ++ [-(tp_l b n q.1)]) = pre ++ q.2.1 ++ x.2.1 ++ [-45] := by rw [c2]; simp only [List.append_assoc]
          obtain ⟨N3, a3, m1, m2, m3⟩ := ih (i + 1) (f + 1) (x.1, q.2.1 ++ x.2.1 ++ [-(tp_l b n q.1)], fun e => lr_op (tp_l b n q.1) (q.2.2 e) (x.2.2 e)) N2 pre x2 (k0.tr p3) (by rw [ea]; exact p2) (by
            rw [ea, List.length_append]
            simp only [List.length_cons, List.length_nil]
            show (pre ++ q.2.1 ++ x.2.1).length + 1 ≤ x.1
            omega) (by show n < x.1 + d; omega) (by show i + 1 < x.1; omega) (by omega)
          have e5 : l_X3_readSum_8 G x0 (f + 1 + 1) (iI 1) (iI i) (tp_m N q.1 (-1)) = l_X3_readSum_8 G x0 (f + 1) (iI 1) (iI ((i + 1 : Nat) : Int)) (tp_m N2 x.1 (-1)) := by
            rw [l_X3_readSum_8]
            simp (disch := omega) only [qn0, qn1, qn2, qn3, qn4, qn5, qn6, qn7, qn8, qn9, qn10, qn11, qn12, qn13, qn14, qn15, qn16, qn17, qn18, qn24, qn30, qn31, qn32, qn33, qn36, qn38, qn40, qn41, qn42, qn43, qn45, qn47, qn48, qn49, qn50, qn51, qn52, qn53, qn57, qn58, qn59, qn60, qn61, qn62, qn63, qn91, qn93, qn97, qn99, qn100, qn103, qn104, qn112, qn113, qn115, qn116, qn118, qn119, qn121, qn124, qn173, qn177, qn240, qn255, qn295, qn352, qn353, qn533, qn999, qn1000, qn1023, qn6561, qn10000, qn20787, qn1000000, qn252645135, qn858993459, qn1000000000, qn1431655765, q_s1, q_s2, q_s3, q_s4, q_s5, iI_add, iI_sub, iI_mul, iI_neg, q_lt, q_le, q_eq, qz0, qz1, qz2, qz3, if_pos, if_neg, reduceIte, e1, c2, e2, k4, eW, p1]
            rfl
          rw [e5]
          exact ⟨N3, a3, m1, m2, m3⟩
      · have cP : ¬ lr_pS (tp_l b n q.1) = true := by
          simp only [lr_pS, Bool.or_eq_true, beq_iff_eq]
          omega
        rw [lr_lp_n cP]
        have e5 : l_X3_readSum_8 G x0 (f + 1 + 1) (iI 1) (iI i) (tp_m N q.1 (-1)) = some (iI 1, tp_m N (tp_s b n q.1) (-1)) := by
          rw [l_X3_readSum_8]
          simp (disch := omega) only [qn0, qn1, qn2, qn3, qn4, qn5, qn6, qn7, qn8, qn9, qn10, qn11, qn12, qn13, qn14, qn15, qn16, qn17, qn18, qn24, qn30, qn31, qn32, qn33, qn36, qn38, qn40, qn41, qn42, qn43, qn45, qn47, qn48, qn49, qn50, qn51, qn52, qn53, qn57, qn58, qn59, qn60, qn61, qn62, qn63, qn91, qn93, qn97, qn99, qn100, qn103, qn104, qn112, qn113, qn115, qn116, qn118, qn119, qn121, qn124, qn173, qn177, qn240, qn255, qn295, qn352, qn353, qn533, qn999, qn1000, qn1023, qn6561, qn10000, qn20787, qn1000000, qn252645135, qn858993459, qn1000000000, qn1431655765, q_s1, q_s2, q_s3, q_s4, q_s5, iI_add, iI_sub, iI_mul, iI_neg, q_lt, q_le, q_eq, qz0, qz1, qz2, qz3, if_pos, if_neg, reduceIte, e1]
        refine ⟨N, 0, h2, fun e h => (by cases h), fun y h => ?_⟩
        cases h
        exact ⟨h3, e5⟩
theorem c_chS (w : tp_w b n) (hr : lr_r r) (K : tp_K b n M) (hM : M 104 1 = nI r) {G : Nat → Int32 → gs_M → Option (Int32 × gs_M)} {x0 : Int32} {H : Nat} {Pv : lr_V → Prop} (hA : lr_cg b n r M (fun Z => G 1 x0 Z) A) (hg : lr_gd n H Pv A) : lr_cg b n r M (fun Z => f_X3_readSum G Z x0) (lr_ch b n lr_pS A) := by
  intro a N pre ha hX hK hl
  obtain ⟨N1, a1, k0, k1, k2⟩ := hA a N pre ha hX hK hl
  have hg' := hg a ha
  have w1 := w.1
  unfold lr_ch f_X3_readSum
  match hR : A a with
  | .inl u =>
    obtain ⟨k3, k4⟩ := k1 u hR
    have es : ∀ f Z, l_X3_readSum_8 G x0 (f + 1) (iI 0) (iI 0) Z = some (iI 0, Z) := fun f Z => by
      simp only [l_X3_readSum_8]
      simp (disch := omega) only [qn0, qn1, qn2, qn3, qn4, qn5, qn6, qn7, qn8, qn9, qn10, qn11, qn12, qn13, qn14, qn15, qn16, qn17, qn18, qn24, qn30, qn31, qn32, qn33, qn36, qn38, qn40, qn41, qn42, qn43, qn45, qn47, qn48, qn49, qn50, qn51, qn52, qn53, qn57, qn58, qn59, qn60, qn61, qn62, qn63, qn91, qn93, qn97, qn99, qn100, qn103, qn104, qn112, qn113, qn115, qn116, qn118, qn119, qn121, qn124, qn173, qn177, qn240, qn255, qn295, qn352, qn353, qn533, qn999, qn1000, qn1023, qn6561, qn10000, qn20787, qn1000000, qn252645135, qn858993459, qn1000000000, qn1431655765, q_s1, q_s2, q_s3, q_s4, q_s5, iI_add, iI_sub, iI_mul, iI_neg, q_lt, q_le, q_eq, qz0, qz1, qz2, qz3, if_pos, if_neg, reduceIte]
    have es' : l_X3_readSum_8 G x0 gs_FU (iI 0) (iI 0) (tp_m N1 a1 u) = some (iI 0, tp_m N1 a1 u) := es _ _
    refine ⟨N1, a1, k0, fun e h => ?_, fun y h => (by cases h)⟩
    cases h
    refine ⟨k3, ?_⟩
    simp (disch := omega) only [qn0, qn1, qn2, qn3, qn4, qn5, qn6, qn7, qn8, qn9, qn10, qn11, qn12, qn13, qn14, qn15, qn16, qn17, qn18, qn24, qn30, qn31, qn32, qn33, qn36, qn38, qn40, qn41, qn42, qn43, qn45, qn47, qn48, qn49, qn50, qn51, qn52, qn53, qn57, qn58, qn59, qn60, qn61, qn62, qn63, qn91, qn93, qn97, qn99, qn100, qn103, qn104, qn112, qn113, qn115, qn116, qn118, qn119, qn121, qn124, qn173, qn177, qn240, qn255, qn295, qn352, qn353, qn533, qn999, qn1000, qn1023, qn6561, qn10000, qn20787, qn1000000, qn252645135, qn858993459, qn1000000000, qn1431655765, q_s1, q_s2, q_s3, q_s4, q_s5, iI_add, iI_sub, iI_mul, iI_neg, q_lt, q_le, q_eq, qz0, qz1, qz2, qz3, if_pos, if_neg, reduceIte, k4, es']
  | .inr q =>
    obtain ⟨k3, k4⟩ := k2 q hR
    obtain ⟨q1, q2, q3, -⟩ := hg'.2 q hR
    obtain ⟨N2, a2, m1, m2, m3⟩ := c_lpS w hr K hM hA hg 241 0 gs_FU q N1 pre q2 k0 k3 (by rw [List.length_append]; omega) (by omega) (by omega) (by decide)
    have e5 : (gs_b2 (G 1 x0 (tp_m N a (-1))) fun v1 M2 => l_X3_readSum_8 G x0 gs_FU v1 0 M2) = l_X3_readSum_8 G x0 gs_FU (iI 1) (iI ((0 : Nat) : Int)) (tp_m N1 q.1 (-1)) := by
      simp (disch := omega) only [qn0, qn1, qn2, qn3, qn4, qn5, qn6, qn7, qn8, qn9, qn10, qn11, qn12, qn13, qn14, qn15, qn16, qn17, qn18, qn24, qn30, qn31, qn32, qn33, qn36, qn38, qn40, qn41, qn42, qn43, qn45, qn47, qn48, qn49, qn50, qn51, qn52, qn53, qn57, qn58, qn59, qn60, qn61, qn62, qn63, qn91, qn93, qn97, qn99, qn100, qn103, qn104, qn112, qn113, qn115, qn116, qn118, qn119, qn121, qn124, qn173, qn177, qn240, qn255, qn295, qn352, qn353, qn533, qn999, qn1000, qn1023, qn6561, qn10000, qn20787, qn1000000, qn252645135, qn858993459, qn1000000000, qn1431655765, q_s1, q_s2, q_s3, q_s4, q_s5, iI_add, iI_sub, iI_mul, iI_neg, q_lt, q_le, q_eq, qz0, qz1, qz2, qz3, if_pos, if_neg, reduceIte, k4]
      rfl
    simp only [e5]
    exact ⟨N2, a2, m1, m2, m3⟩
theorem c_lpT (w : tp_w b n) (hr : lr_r r) (K : tp_K b n M) (hM : M 104 1 = nI r) {G : Nat → Int32 → gs_M → Option (Int32 × gs_M)} {x0 : Int32} {H : Nat} {Pv : lr_V → Prop} (hA : lr_cg b n r M (fun Z => G 2 x0 Z) A) (hg : lr_gd n H Pv A) : ∀ (d i f : Nat) (q : lr_Q) (N : gs_M) (pre : List Int), q.1 ≤ n → lr_X r M N → lr_K r (pre ++ q.2.1) N → (pre ++ q.2.1).length ≤ q.1 → n < q.1 + d → i < q.1 → d < f → ∃ N' a', lr_X r M N' ∧ (∀ e, lr_lp b n lr_pT A d q = .inl e → lr_cnt r N' ∧ l_X3_readTerm_8 G x0 f (iI 1) (iI i) (tp_m N q.1 (-1)) = some (iI 0, tp_m N' a' e)) ∧ ∀ y, lr_lp b n lr_pT A d q = .inr y → lr_K r (pre ++ y.2.1) N' ∧ l_X3_readTerm_8 G x0 f (iI 1) (iI i) (tp_m N q.1 (-1)) = some (iI 1, tp_m N' y.1 (-1)) := by
  have w1 := w.1
  intro d
  induction d with
  | zero =>
    intro i f q N pre h1 h2 h3 h4 h5
    omega
  | succ d ih =>
    intro i f q N pre h1 h2 h3 h4 h5 h6 h7
    obtain ⟨f, rfl⟩ : ∃ k, f = k + 1 + 1 := ⟨f - 2, by omega⟩
    have KN := h2.K hr K
    have hs := tp_s_b (b := b) h1
    have hl := tp_l_b (a := q.1) w
    have e1 := c_look (t := -1) w KN h1
    have es : ∀ Z, l_X3_readTerm_8 G x0 (f + 1) (iI 0) (iI ((i : Int) + 1)) Z = some (iI 0, Z) := fun Z => by
      simp only [l_X3_readTerm_8]
      by_cases c3 : 240 ≤ (i : Int) + 1
      · simp (disch := omega) only [qn0, qn1, qn2, qn3, qn4, qn5, qn6, qn7, qn8, qn9, qn10, qn11, qn12, qn13, qn14, qn15, qn16, qn17, qn18, qn24, qn30, qn31, qn32, qn33, qn36, qn38, qn40, qn41, qn42, qn43, qn45, qn47, qn48, qn49, qn50, qn51, qn52, qn53, qn57, qn58, qn59, qn60, qn61, qn62, qn63, qn91, qn93, qn97, qn99, qn100, qn103, qn104, qn112, qn113, qn115, qn116, qn118, qn119, qn121, qn124, qn173, qn177, qn240, qn255, qn295, qn352, qn353, qn533, qn999, qn1000, qn1023, qn6561, qn10000, qn20787, qn1000000, qn252645135, qn858993459, qn1000000000, qn1431655765, q_s1, q_s2, q_s3, q_s4, q_s5, iI_add, iI_sub, iI_mul, iI_neg, q_lt, q_le, q_eq, qz0, qz1, qz2, qz3, if_pos, if_neg, reduceIte]
      · simp (disch := omega) only [qn0, qn1, qn2, qn3, qn4, qn5, qn6, qn7, qn8, qn9, qn10, qn11, qn12, qn13, qn14, qn15, qn16, qn17, qn18, qn24, qn30, qn31, qn32, qn33, qn36, qn38, qn40, qn41, qn42, qn43, qn45, qn47, qn48, qn49, qn50, qn51, qn52, qn53, qn57, qn58, qn59, qn60, qn61, qn62, qn63, qn91, qn93, qn97, qn99, qn100, qn103, qn104, qn112, qn113, qn115, qn116, qn118, qn119, qn121, qn124, qn173, qn177, qn240, qn255, qn295, qn352, qn353, qn533, qn999, qn1000, qn1023, qn6561, qn10000, qn20787, qn1000000, qn252645135, qn858993459, qn1000000000, qn1431655765, q_s1, q_s2, q_s3, q_s4, q_s5, iI_add, iI_sub, iI_mul, iI_neg, q_lt, q_le, q_eq, qz0, qz1, qz2, qz3, if_pos, if_neg, reduceIte]
    by_cases c : tp_l b n q.1 = 42
    · have cP : lr_pT (tp_l b n q.1) = true := by rw [c]; rfl
      have e2 := c_step1 (t := -1) w KN (a := tp_s b n q.1) (by omega)
      obtain ⟨N1, a1, k0, k1, k2⟩ := hA (tp_s b n q.1 + 1) N (pre ++ q.2.1) (by omega) h2 h3 (by omega)
      have eW : ∀ a' t', gs_ckW (tp_m N1 a' t' 104 1).toNatClampNeg = some r := fun a' t' => c_ckW hr hM k0
      match hR : A (tp_s b n q.1 + 1) with
      | .inl u =>
        obtain ⟨k3, k4⟩ := k1 u hR
        obtain ⟨N2, p1, p2, p3, -⟩ := c_lput0 (a := a1) (t := (u : Int)) hr k3 (iI (-42))
        rw [lr_lp_e cP hR]
        refine ⟨N2, a1, k0.tr p3, fun e h => ?_, fun y h => (by cases h)⟩
        cases h
        refine ⟨p2, ?_⟩
        rw [l_X3_readTerm_8]
        simp (disch := omega) only [qn0, qn1, qn2, qn3, qn4, qn5, qn6, qn7, qn8, qn9, qn10, qn11, qn12, qn13, qn14, qn15, qn16, qn17, qn18, qn24, qn30, qn31, qn32, qn33, qn36, qn38, qn40, qn41, qn42, qn43, qn45, qn47, qn48, qn49, qn50, qn51, qn52, qn53, qn57, qn58, qn59, qn60, qn61, qn62, qn63, qn91, qn93, qn97, qn99, qn100, qn103, qn104, qn112, qn113, qn115, qn116, qn118, qn119, qn121, qn124, qn173, qn177, qn240, qn255, qn295, qn352, qn353, qn533, qn999, qn1000, qn1023, qn6561, qn10000, qn20787, qn1000000, qn252645135, qn858993459, qn1000000000, qn1431655765, q_s1, q_s2, q_s3, q_s4, q_s5, iI_add, iI_sub, iI_mul, iI_neg, q_lt, q_le, q_eq, qz0, qz1, qz2, qz3, if_pos, if_neg, reduceIte, e1, c, e2, k4, eW, p1, es]
      | .inr x =>
        obtain ⟨k3, k4⟩ := k2 x hR
        obtain ⟨x1, x2, x3, -⟩ := (hg (tp_s b n q.1 + 1) (by omega)).2 x hR
        have hlen : (pre ++ q.2.1 ++ x.2.1).length < x.1 := by
          rw [List.length_append]
          omega
        obtain ⟨N2, p1, p2, p3⟩ := c_lput (a := x.1) (t := -1) hr k3 (by omega) (-42)
        rw [lr_lp_y cP hR]
        have ea : pre ++ (q.2.1 ++ x.2.1 ++ [-(tp_l b n q.1)]) = pre ++ q.2.1 ++ x.2.1 ++ [-42] := by rw [c]; simp only [List.append_assoc]
        obtain ⟨N3, a3, m1, m2, m3⟩ := ih (i + 1) (f + 1) (x.1, q.2.1 ++ x.2.1 ++ [-(tp_l b n q.1)], fun e => lr_op (tp_l b n q.1) (q.2.2 e) (x.2.2 e)) N2 pre x2 (k0.tr p3) (by rw [ea]; exact p2) (by
          rw [ea, List.length_append]
          simp only [List.length_cons, List.length_nil]
          show (pre ++ q.2.1 ++ x.2.1).length + 1 ≤ x.1
          omega) (by show n < x.1 + d; omega) (by show i + 1 < x.1; omega) (by omega)
        have e5 : l_X3_readTerm_8 G x0 (f + 1 + 1) (iI 1) (iI i) (tp_m N q.1 (-1)) = l_X3_readTerm_8 G x0 (f + 1) (iI 1) (iI ((i + 1 : Nat) : Int)) (tp_m N2 x.1 (-1)) := by
          rw [l_X3_readTerm_8]
          simp (disch := omega) only [qn0, qn1, qn2, qn3, qn4, qn5, qn6, qn7, qn8, qn9, qn10, qn11, qn12, qn13, qn14, qn15, qn16, qn17, qn18, qn24, qn30, qn31, qn32, qn33, qn36, qn38, qn40, qn41, qn42, qn43, qn45, qn47, qn48, qn49, qn50, qn51, qn52, qn53, qn57, qn58, qn59, qn60, qn61, qn62, qn63, qn91, qn93, qn97, qn99, qn100, qn103, qn104, qn112, qn113, qn115, qn116, qn118, qn119, qn121, qn124, qn173, qn177, qn240, qn255, qn295, qn352, qn353, qn533, qn999, qn1000, qn1023, qn6561, qn10000, qn20787, qn1000000, qn252645135, qn858993459, qn1000000000, qn1431655765, q_s1, q_s2, q_s3, q_s4, q_s5, iI_add, iI_sub, iI_mul, iI_neg, q_lt, q_le, q_eq, qz0, qz1, qz2, qz3, if_pos, if_neg, reduceIte, e1, c, e2, k4, eW, p1]
          rfl
        rw [e5]
        exact ⟨N3, a3, m1, m2, m3⟩
    · by_cases c2 : tp_l b n q.1 = 47
      · have cP : lr_pT (tp_l b n q.1) = true := by rw [c2]; rfl
        have e2 := c_step1 (t := -1) w KN (a := tp_s b n q.1) (by omega)
        obtain ⟨N1, a1, k0, k1, k2⟩ := hA (tp_s b n q.1 + 1) N (pre ++ q.2.1) (by omega) h2 h3 (by omega)
        have eW : ∀ a' t', gs_ckW (tp_m N1 a' t' 104 1).toNatClampNeg = some r := fun a' t' => c_ckW hr hM k0
        match hR : A (tp_s b n q.1 + 1) with
        | .inl u =>
          obtain ⟨k3, k4⟩ := k1 u hR
          obtain ⟨N2, p1, p2, p3, -⟩ := c_lput0 (a := a1) (t := (u : Int)) hr k3 (iI (-47))
          rw [lr_lp_e cP hR]
          refine ⟨N2, a1, k0.tr p3, fun e h => ?_, fun y h => (by cases h)⟩
          cases h
          refine ⟨p2, ?_⟩
          rw [l_X3_readTerm_8]
          simp (disch := omega) only [qn0, qn1, qn2, qn3, qn4, qn5, qn6, qn7, qn8, qn9, qn10, qn11, qn12, qn13, qn14, qn15, qn16, qn17, qn18, qn24, qn30, qn31, qn32, qn33, qn36, qn38, qn40, qn41, qn42, qn43, qn45, qn47, qn48, qn49, qn50, qn51, qn52, qn53, qn57, qn58, qn59, qn60, qn61, qn62, qn63, qn91, qn93, qn97, qn99, qn100, qn103, qn104, qn112, qn113, qn115, qn116, qn118, qn119, qn121, qn124, qn173, qn177, qn240, qn255, qn295, qn352, qn353, qn533, qn999, qn1000, qn1023, qn6561, qn10000, qn20787, qn1000000, qn252645135, qn858993459, qn1000000000, qn1431655765, q_s1, q_s2, q_s3, q_s4, q_s5, iI_add, iI_sub, iI_mul, iI_neg, q_lt, q_le, q_eq, qz0, qz1, qz2, qz3, if_pos, if_neg, reduceIte, e1, c2, e2, k4, eW, p1, es]
        | .inr x =>
          obtain ⟨k3, k4⟩ := k2 x hR
          obtain ⟨x1, x2, x3, -⟩ := (hg (tp_s b n q.1 + 1) (by omega)).2 x hR
          have hlen : (pre ++ q.2.1 ++ x.2.1).length < x.1 := by
            rw [List.length_append]
            omega
          obtain ⟨N2, p1, p2, p3⟩ := c_lput (a := x.1) (t := -1) hr k3 (by omega) (-47)
          rw [lr_lp_y cP hR]
          have ea : pre ++ (q.2.1 ++ x.2.1 ++ [-(tp_l b n q.1)]) = pre ++ q.2.1 ++ x.2.1 ++ [-47] := by rw [c2]; simp only [List.append_assoc]
          obtain ⟨N3, a3, m1, m2, m3⟩ := ih (i + 1) (f + 1) (x.1, q.2.1 ++ x.2.1 ++ [-(tp_l b n q.1)], fun e => lr_op (tp_l b n q.1) (q.2.2 e) (x.2.2 e)) N2 pre x2 (k0.tr p3) (by rw [ea]; exact p2) (by
            rw [ea, List.length_append]
            simp only [List.length_cons, List.length_nil]
            show (pre ++ q.2.1 ++ x.2.1).length + 1 ≤ x.1
            omega) (by show n < x.1 + d; omega) (by show i + 1 < x.1; omega) (by omega)
          have e5 : l_X3_readTerm_8 G x0 (f + 1 + 1) (iI 1) (iI i) (tp_m N q.1 (-1)) = l_X3_readTerm_8 G x0 (f + 1) (iI 1) (iI ((i + 1 : Nat) : Int)) (tp_m N2 x.1 (-1)) := by
            rw [l_X3_readTerm_8]
            simp (disch := omega) only [qn0, qn1, qn2, qn3, qn4, qn5, qn6, qn7, qn8, qn9, qn10, qn11, qn12, qn13, qn14, qn15, qn16, qn17, qn18, qn24, qn30, qn31, qn32, qn33, qn36, qn38, qn40, qn41, qn42, qn43, qn45, qn47, qn48, qn49, qn50, qn51, qn52, qn53, qn57, qn58, qn59, qn60, qn61, qn62, qn63, qn91, qn93, qn97, qn99, qn100, qn103, qn104, qn112, qn113, qn115, qn116, qn118, qn119, qn121, qn124, qn173, qn177, qn240, qn255, qn295, qn352, qn353, qn533, qn999, qn1000, qn1023, qn6561, qn10000, qn20787, qn1000000, qn252645135, qn858993459, qn1000000000, qn1431655765, q_s1, q_s2, q_s3, q_s4, q_s5, iI_add, iI_sub, iI_mul, iI_neg, q_lt, q_le, q_eq, qz0, qz1, qz2, qz3, if_pos, if_neg, reduceIte, e1, c2, e2, k4, eW, p1]
            rfl
          rw [e5]
          exact ⟨N3, a3, m1, m2, m3⟩
      · have cP : ¬ lr_pT (tp_l b n q.1) = true := by
          simp only [lr_pT, Bool.or_eq_true, beq_iff_eq]
          omega
        rw [lr_lp_n cP]
        have e5 : l_X3_readTerm_8 G x0 (f + 1 + 1) (iI 1) (iI i) (tp_m N q.1 (-1)) = some (iI 1, tp_m N (tp_s b n q.1) (-1)) := by
          rw [l_X3_readTerm_8]
          simp (disch := omega) only [qn0, qn1, qn2, qn3, qn4, qn5, qn6, qn7, qn8, qn9, qn10, qn11, qn12, qn13, qn14, qn15, qn16, qn17, qn18, qn24, qn30, qn31, qn32, qn33, qn36, qn38, qn40, qn41, qn42, qn43, qn45, qn47, qn48, qn49, qn50, qn51, qn52, qn53, qn57, qn58, qn59, qn60, qn61, qn62, qn63, qn91, qn93, qn97, qn99, qn100, qn103, qn104, qn112, qn113, qn115, qn116, qn118, qn119, qn121, qn124, qn173, qn177, qn240, qn255, qn295, qn352, qn353, qn533, qn999, qn1000, qn1023, qn6561, qn10000, qn20787, qn1000000, qn252645135, qn858993459, qn1000000000, qn1431655765, q_s1, q_s2, q_s3, q_s4, q_s5, iI_add, iI_sub, iI_mul, iI_neg, q_lt, q_le, q_eq, qz0, qz1, qz2, qz3, if_pos, if_neg, reduceIte, e1]
        refine ⟨N, 0, h2, fun e h => (by cases h), fun y h => ?_⟩
        cases h
        exact ⟨h3, e5⟩
theorem c_chT (w : tp_w b n) (hr : lr_r r) (K : tp_K b n M) (hM : M 104 1 = nI r) {G : Nat → Int32 → gs_M → Option (Int32 × gs_M)} {x0 : Int32} {H : Nat} {Pv : lr_V → Prop} (hA : lr_cg b n r M (fun Z => G 2 x0 Z) A) (hg : lr_gd n H Pv A) : lr_cg b n r M (fun Z => f_X3_readTerm G Z x0) (lr_ch b n lr_pT A) := by
  intro a N pre ha hX hK hl
  obtain ⟨N1, a1, k0, k1, k2⟩ := hA a N pre ha hX hK hl
  have hg' := hg a ha
  have w1 := w.1
  unfold lr_ch f_X3_readTerm
  match hR : A a with
  | .inl u =>
    obtain ⟨k3, k4⟩ := k1 u hR
    have es : ∀ f Z, l_X3_readTerm_8 G x0 (f + 1) (iI 0) (iI 0) Z = some (iI 0, Z) := fun f Z => by
      simp only [l_X3_readTerm_8]
      simp (disch := omega) only [qn0, qn1, qn2, qn3, qn4, qn5, qn6, qn7, qn8, qn9, qn10, qn11, qn12, qn13, qn14, qn15, qn16, qn17, qn18, qn24, qn30, qn31, qn32, qn33, qn36, qn38, qn40, qn41, qn42, qn43, qn45, qn47, qn48, qn49, qn50, qn51, qn52, qn53, qn57, qn58, qn59, qn60, qn61, qn62, qn63, qn91, qn93, qn97, qn99, qn100, qn103, qn104, qn112, qn113, qn115, qn116, qn118, qn119, qn121, qn124, qn173, qn177, qn240, qn255, qn295, qn352, qn353, qn533, qn999, qn1000, qn1023, qn6561, qn10000, qn20787, qn1000000, qn252645135, qn858993459, qn1000000000, qn1431655765, q_s1, q_s2, q_s3, q_s4, q_s5, iI_add, iI_sub, iI_mul, iI_neg, q_lt, q_le, q_eq, qz0, qz1, qz2, qz3, if_pos, if_neg, reduceIte]
    have es' : l_X3_readTerm_8 G x0 gs_FU (iI 0) (iI 0) (tp_m N1 a1 u) = some (iI 0, tp_m N1 a1 u) := es _ _
    refine ⟨N1, a1, k0, fun e h => ?_, fun y h => (by cases h)⟩
    cases h
    refine ⟨k3, ?_⟩
    simp (disch := omega) only [qn0, qn1, qn2, qn3, qn4, qn5, qn6, qn7, qn8, qn9, qn10, qn11, qn12, qn13, qn14, qn15, qn16, qn17, qn18, qn24, qn30, qn31, qn32, qn33, qn36, qn38, qn40, qn41, qn42, qn43, qn45, qn47, qn48, qn49, qn50, qn51, qn52, qn53, qn57, qn58, qn59, qn60, qn61, qn62, qn63, qn91, qn93, qn97, qn99, qn100, qn103, qn104, qn112, qn113, qn115, qn116, qn118, qn119, qn121, qn124, qn173, qn177, qn240, qn255, qn295, qn352, qn353, qn533, qn999, qn1000, qn1023, qn6561, qn10000, qn20787, qn1000000, qn252645135, qn858993459, qn1000000000, qn1431655765, q_s1, q_s2, q_s3, q_s4, q_s5, iI_add, iI_sub, iI_mul, iI_neg, q_lt, q_le, q_eq, qz0, qz1, qz2, qz3, if_pos, if_neg, reduceIte, k4, es']
  | .inr q =>
    obtain ⟨k3, k4⟩ := k2 q hR
    obtain ⟨q1, q2, q3, -⟩ := hg'.2 q hR
    obtain ⟨N2, a2, m1, m2, m3⟩ := c_lpT w hr K hM hA hg 241 0 gs_FU q N1 pre q2 k0 k3 (by rw [List.length_append]; omega) (by omega) (by omega) (by decide)
    have e5 : (gs_b2 (G 2 x0 (tp_m N a (-1))) fun v1 M2 => l_X3_readTerm_8 G x0 gs_FU v1 0 M2) = l_X3_readTerm_8 G x0 gs_FU (iI 1) (iI ((0 : Nat) : Int)) (tp_m N1 q.1 (-1)) := by
      simp (disch := omega) only [qn0, qn1, qn2, qn3, qn4, qn5, qn6, qn7, qn8, qn9, qn10, qn11, qn12, qn13, qn14, qn15, qn16, qn17, qn18, qn24, qn30, qn31, qn32, qn33, qn36, qn38, qn40, qn41, qn42, qn43, qn45, qn47, qn48, qn49, qn50, qn51, qn52, qn53, qn57, qn58, qn59, qn60, qn61, qn62, qn63, qn91, qn93, qn97, qn99, qn100, qn103, qn104, qn112, qn113, qn115, qn116, qn118, qn119, qn121, qn124, qn173, qn177, qn240, qn255, qn295, qn352, qn353, qn533, qn999, qn1000, qn1023, qn6561, qn10000, qn20787, qn1000000, qn252645135, qn858993459, qn1000000000, qn1431655765, q_s1, q_s2, q_s3, q_s4, q_s5, iI_add, iI_sub, iI_mul, iI_neg, q_lt, q_le, q_eq, qz0, qz1, qz2, qz3, if_pos, if_neg, reduceIte, k4]
      rfl
    simp only [e5]
    exact ⟨N2, a2, m1, m2, m3⟩
end Law5
