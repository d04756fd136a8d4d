/-! OR-tails read by the class -/
section Law9
variable {b : Nat → Int} {n r : Nat} {M N : gs_M} {U : Nat → lr_R} {pre : List Int}
/-- a unit and its AND-tail in a row, as the class does it -/
theorem c_pcU (hr : lr_r r) {G : Nat → Int32 → gs_M → Option (Int32 × gs_M)} {x0 : Int32} {H : Nat} {Pv : lr_V → Prop} (hA : lr_cg b n r M (fun Z => G 6 x0 Z) U) (hT : lr_cq b n r M (fun Z => G 5 x0 Z) (lr_lp b n lr_pA U 241)) (hg : lr_gd n H Pv U) {a : Nat} {N : gs_M} {pre : List Int} (ha : a ≤ n) (hX : lr_X r M N) (hK : lr_K r pre N) (hl : pre.length ≤ a) : ∃ v9 M10 N' a', G 6 x0 (tp_m N a (-1)) = some (v9, M10) ∧ lr_X r M N' ∧ (∀ e, lr_ch b n lr_pA U a = .inl e → lr_cnt r N' ∧ ((v9 = iI 0 ∧ M10 = tp_m N' a' e) ∨ (v9 = iI 1 ∧ G 5 x0 M10 = some (iI 0, tp_m N' a' e)))) ∧ ∀ y, lr_ch b n lr_pA U a = .inr y → lr_K r (pre ++ y.2.1) N' ∧ v9 = iI 1 ∧ G 5 x0 M10 = some (iI 1, tp_m N' y.1 (-1)) := by
  obtain ⟨N1, a1, k0, k1, k2⟩ := hA a N pre ha hX hK hl
  unfold lr_ch
  match hR : U a with
  | .inl u =>
    obtain ⟨k3, k4⟩ := k1 u hR
    refine ⟨iI 0, tp_m N1 a1 u, N1, a1, k4, k0, fun e h => ?_, fun y h => (by cases h)⟩
    cases h
    exact ⟨k3, Or.inl ⟨rfl, rfl⟩⟩
  | .inr q =>
    obtain ⟨k3, k4⟩ := k2 q hR
    obtain ⟨q1, q2, q3, -⟩ := (hg a ha).2 q hR
    obtain ⟨N2, a2, m0, m1, m2⟩ := hT q N1 pre q2 k0 k3 (by rw [List.length_append]; omega)
    refine ⟨iI 1, tp_m N1 q.1 (-1), N2, a2, k4, m0, fun e h => ?_, fun y h => ?_⟩
    · obtain ⟨m3, m4⟩ := m1 e h
      exact ⟨m3, Or.inr ⟨rfl, m4⟩⟩
    · obtain ⟨m3, m4⟩ := m2 y h
      exact ⟨m3, rfl, m4⟩
theorem c_lpO (w : tp_w b n) (hr : lr_r r) (K : tp_K b n M) (hM : M 104 1 = nI r) {G : Nat → Int32 → gs_M → Option (Int32 × gs_M)} {x0 : Int32} {H : Nat} {Pv : lr_V → Prop} (hA : lr_cg b n r M (fun Z => G 6 x0 Z) U) (hT : lr_cq b n r M (fun Z => G 5 x0 Z) (lr_lp b n lr_pA U 241)) (hg : lr_gd n H Pv U) (hg2 : lr_gd n (H + 1) Pv (lr_ch b n lr_pA U)) : ∀ (d i f : Nat) (q : lr_Q) (N : gs_M) (pre : List Int), q.1 ≤ n → lr_X r M N → lr_K r (pre ++ q.2.1) N → (pre ++ q.2.1).length ≤ q.1 → n < q.1 + d → 2 * i ≤ q.1 → d < f → ∃ N' a', lr_X r M N' ∧ (∀ e, lr_lp b n lr_pO (lr_ch b n lr_pA U) d q = .inl e → lr_cnt r N' ∧ ∃ j, l_X3_readTail_8 G x0 f (iI 1) (iI i) (tp_m N q.1 (-1)) = some (iI 0, j, tp_m N' a' e)) ∧ ∀ y, lr_lp b n lr_pO (lr_ch b n lr_pA U) d q = .inr y → lr_K r (pre ++ y.2.1) N' ∧ ∃ j, l_X3_readTail_8 G x0 f (iI 1) (iI i) (tp_m N q.1 (-1)) = some (iI 1, j, tp_m N' y.1 (-1)) := by
  have w1 := w.1
  intro d
  induction d with
  | zero =>
    intro i f q N pre h1 h2 h3 h4 h5
    omega
  | succ d ih =>
    intro i f q N pre h1 h2 h3 h4 h5 h6 h7
    obtain ⟨f, rfl⟩ : ∃ k, f = k + 1 + 1 := ⟨f - 2, by omega⟩
    have KN := h2.K hr K
    have hs := tp_s_b (b := b) h1
    have hl := tp_l_b (a := q.1) w
    have e1 := c_look (t := -1) w KN h1
    have es : ∀ Z, l_X3_readTail_8 G x0 (f + 1) (iI 0) (iI ((i : Int) + 1)) Z = some (iI 0, iI ((i : Int) + 1), Z) := fun Z => by
      simp only [l_X3_readTail_8]
      simp (disch := omega) only [qn0, qn1, qn2, qn3, qn4, qn5, qn6, qn7, qn8, qn9, qn10, qn11, qn12, qn13, qn14, qn15, qn16, qn17, qn18, qn24, qn30, qn31, qn32, qn33, qn36, qn38, qn40, qn41, qn42, qn43, qn45, qn47, qn48, qn49, qn50, qn51, qn52, qn53, qn57, qn58, qn59, qn60, qn61, qn62, qn63, qn91, qn93, qn97, qn99, qn100, qn103, qn104, qn112, qn113, qn115, qn116, qn118, qn119, qn121, qn124, qn173, qn177, qn240, qn255, qn295, qn352, qn353, qn533, qn999, qn1000, qn1023, qn6561, qn10000, qn20787, qn1000000, qn252645135, qn858993459, qn1000000000, qn1431655765, q_s1, q_s2, q_s3, q_s4, q_s5, iI_add, iI_sub, iI_mul, iI_neg, q_lt, q_le, q_eq, qz0, qz1, qz2, qz3, if_pos, if_neg, reduceIte]
    by_cases c : tp_l b n q.1 = 124
    · have cP : lr_pO (tp_l b n q.1) = true := by rw [c]; rfl
      have e2 := c_step1 (t := -1) w KN (a := tp_s b n q.1) (by omega)
      obtain ⟨v9, M10, N1, a1, k00, k0, k1, k2⟩ := c_pcU hr hA hT hg (a := tp_s b n q.1 + 1) (N := N) (pre := pre ++ q.2.1) (by omega) h2 h3 (by omega)
      have eW : ∀ a' t', gs_ckW (tp_m N1 a' t' 104 1).toNatClampNeg = some r := fun a' t' => c_ckW hr hM k0
      have en : (-124 : Int32) = iI (-124) := rfl
      match hR : lr_ch b n lr_pA U (tp_s b n q.1 + 1) with
      | .inl u =>
        obtain ⟨k3, k4⟩ := k1 u hR
        obtain ⟨N2, p1, p2, p3, -⟩ := c_lput0 (a := a1) (t := (u : Int)) hr k3 (iI (-124))
        rw [lr_lp_e cP hR]
        refine ⟨N2, a1, k0.tr p3, fun e h => ?_, fun y h => (by cases h)⟩
        cases h
        refine ⟨p2, iI ((i : Int) + 1), ?_⟩
        rw [l_X3_readTail_8]
        rcases k4 with ⟨rfl, rfl⟩ | ⟨rfl, k4⟩
        · simp (disch := omega) only [qn0, qn1, qn2, qn3, qn4, qn5, qn6, qn7, qn8, qn9, qn10, qn11, qn12, qn13, qn14, qn15, qn16, qn17, qn18, qn24, qn30, qn31, qn32, qn33, qn36, qn38, qn40, qn41, qn42, qn43, qn45, qn47, qn48, qn49, qn50, qn51, qn52, qn53, qn57, qn58, qn59, qn60, qn61, qn62, qn63, qn91, qn93, qn97, qn99, qn100, qn103, qn104, qn112, qn113, qn115, qn116, qn118, qn119, qn121, qn124, qn173, qn177, qn240, qn255, qn295, qn352, qn353, qn533, qn999, qn1000, qn1023, qn6561, qn10000, qn20787, qn1000000, qn252645135, qn858993459, qn1000000000, qn1431655765, q_s1, q_s2, q_s3, q_s4, q_s5, iI_add, iI_sub, iI_mul, iI_neg, q_lt, q_le, q_eq, qz0, qz1, qz2, qz3, if_pos, if_neg, reduceIte, e1, c, e2, k00, eW, en, p1, es]
        · simp (disch := omega) only [qn0, qn1, qn2, qn3, qn4, qn5, qn6, qn7, qn8, qn9, qn10, qn11, qn12, qn13, qn14, qn15, qn16, qn17, qn18, qn24, qn30, qn31, qn32, qn33, qn36, qn38, qn40, qn41, qn42, qn43, qn45, qn47, qn48, qn49, qn50, qn51, qn52, qn53, qn57, qn58, qn59, qn60, qn61, qn62, qn63, qn91, qn93, qn97, qn99, qn100, qn103, qn104, qn112, qn113, qn115, qn116, qn118, qn119, qn121, qn124, qn173, qn177, qn240, qn255, qn295, qn352, qn353, qn533, qn999, qn1000, qn1023, qn6561, qn10000, qn20787, qn1000000, qn252645135, qn858993459, qn1000000000, qn1431655765, q_s1, q_s2, q_s3, q_s4, q_s5, iI_add, iI_sub, iI_mul, iI_neg, q_lt, q_le, q_eq, qz0, qz1, qz2, qz3, if_pos, if_neg, reduceIte, e1, c, e2, k00, k4, eW, en, p1, es]
      | .inr x =>
        obtain ⟨k3, rfl, k4⟩ := k2 x hR
        obtain ⟨x1, x2, x3, -⟩ := (hg2 (tp_s b n q.1 + 1) (by omega)).2 x hR
        have hlen : (pre ++ q.2.1 ++ x.2.1).length < x.1 := by
          rw [List.length_append]
          omega
        obtain ⟨N2, p1, p2, p3⟩ := c_lput (a := x.1) (t := -1) hr k3 (by omega) (-124)
        rw [lr_lp_y cP hR]
        have ea : pre ++ (q.2.1 ++ x.2.1 ++ [-(tp_l b n q.1)]) = pre ++ q.2.1 ++ x.2.1 ++ [-124] := by rw [c]; simp only [List.append_assoc]
        obtain ⟨N3, a3, m1, m2, m3⟩ := ih (i + 1) (f + 1) (x.1, q.2.1 ++ x.2.1 ++ [-(tp_l b n q.1)], fun e => lr_op (tp_l b n q.1) (q.2.2 e) (x.2.2 e)) N2 pre x2 (k0.tr p3) (by rw [ea]; exact p2) (by
          rw [ea, List.length_append]
          simp only [List.length_cons, List.length_nil]
          show (pre ++ q.2.1 ++ x.2.1).length + 1 ≤ x.1
          omega) (by show n < x.1 + d; omega) (by show 2 * (i + 1) ≤ x.1; omega) (by omega)
        have e5 : l_X3_readTail_8 G x0 (f + 1 + 1) (iI 1) (iI i) (tp_m N q.1 (-1)) = l_X3_readTail_8 G x0 (f + 1) (iI 1) (iI ((i + 1 : Nat) : Int)) (tp_m N2 x.1 (-1)) := by
          rw [l_X3_readTail_8]
          simp (disch := omega) only [qn0, qn1, qn2, qn3, qn4, qn5, qn6, qn7, qn8, qn9, qn10, qn11, qn12, qn13, qn14, qn15, qn16, qn17, qn18, qn24, qn30, qn31, qn32, qn33, qn36, qn38, qn40, qn41, qn42, qn43, qn45, qn47, qn48, qn49, qn50, qn51, qn52, qn53, qn57, qn58, qn59, qn60, qn61, qn62, qn63, qn91, qn93, qn97, qn99, qn100, qn103, qn104, qn112, qn113, qn115, qn116, qn118, qn119, qn121, qn124, qn173, qn177, qn240, qn255, qn295, qn352, qn353, qn533, qn999, qn1000, qn1023, qn6561, qn10000, qn20787, qn1000000, qn252645135, qn858993459, qn1000000000, qn1431655765, q_s1, q_s2, q_s3, q_s4, q_s5, iI_add, iI_sub, iI_mul, iI_neg, q_lt, q_le, q_eq, qz0, qz1, qz2, qz3, if_pos, if_neg, reduceIte, e1, c, e2, k00, k4, eW, en, p1]
          rfl
        rw [e5]
        exact ⟨N3, a3, m1, m2, m3⟩
    · have cP : ¬ lr_pO (tp_l b n q.1) = true := by
        simp only [lr_pO, beq_iff_eq]
        exact c
      rw [lr_lp_n cP]
      have e5 : l_X3_readTail_8 G x0 (f + 1 + 1) (iI 1) (iI i) (tp_m N q.1 (-1)) = some (iI 1, iI i, tp_m N (tp_s b n q.1) (-1)) := by
        rw [l_X3_readTail_8]
        simp (disch := omega) only [qn0, qn1, qn2, qn3, qn4, qn5, qn6, qn7, qn8, qn9, qn10, qn11, qn12, qn13, qn14, qn15, qn16, qn17, qn18, qn24, qn30, qn31, qn32, qn33, qn36, qn38, qn40, qn41, qn42, qn43, qn45, qn47, qn48, qn49, qn50, qn51, qn52, qn53, qn57, qn58, qn59, qn60, qn61, qn62, qn63, qn91, qn93, qn97, qn99, qn100, qn103, qn104, qn112, qn113, qn115, qn116, qn118, qn119, qn121, qn124, qn173, qn177, qn240, qn255, qn295, qn352, qn353, qn533, qn999, qn1000, qn1023, qn6561, qn10000, qn20787, qn1000000, qn252645135, qn858993459, qn1000000000, qn1431655765, q_s1, q_s2, q_s3, q_s4, q_s5, iI_add, iI_sub, iI_mul, iI_neg, q_lt, q_le, q_eq, qz0, qz1, qz2, qz3, if_pos, if_neg, reduceIte, e1]
      refine ⟨N, 0, h2, fun e h => (by cases h), fun y h => ?_⟩
      cases h
      exact ⟨h3, iI i, e5⟩
end Law9
