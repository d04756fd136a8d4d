/-! conditions' tails read by the class -/
section Law10
variable {b : Nat → Int} {n r : Nat} {M N : gs_M} {U A : Nat → lr_R} {P : Int → Bool}
theorem lr_lp_b (w : tp_w b n) (hP : P (-1) = false) {H : Nat} {Pv : lr_V → Prop} (hA : lr_gd n H Pv A) : ∀ (d : Nat) (q : lr_Q), q.1 ≤ n → ∀ y, lr_lp b n P A d q = .inr y → q.1 ≤ y.1 ∧ y.1 ≤ n ∧ y.2.1.length + q.1 ≤ y.1 + q.2.1.length := by
  intro d
  induction d with
  | zero =>
    intro q h1 y h
    cases h
  | succ d ih =>
    intro q h1 y h
    have hs := tp_s_b (b := b) h1
    have hl := tp_l_b (a := q.1) w
    by_cases c : P (tp_l b n q.1) = true
    · have hsn : tp_s b n q.1 < n := by
        rcases hl with c5 | c5
        · rw [c5.1, hP] at c
          cases c
        · exact c5.2.2.1
      match hR : A (tp_s b n q.1 + 1) with
      | .inl u =>
        rw [lr_lp_e c hR] at h
        cases h
      | .inr x =>
        rw [lr_lp_y c hR] at h
        obtain ⟨x1, x2, x3, -⟩ := (hA (tp_s b n q.1 + 1) (by omega)).2 x hR
        have := ih (x.1, q.2.1 ++ x.2.1 ++ [-(tp_l b n q.1)], fun e => lr_op (tp_l b n q.1) (q.2.2 e) (x.2.2 e)) x2 y h
        simp only [List.length_append, List.length_cons, List.length_nil] at this
        omega
    · rw [lr_lp_n c] at h
      cases h
      exact ⟨hs.1, hs.2, by show q.2.1.length + q.1 ≤ tp_s b n q.1 + q.2.1.length; omega⟩
def lr_tl (b : Nat → Int) (n : Nat) (U : Nat → lr_R) (q : lr_Q) : lr_R := match lr_lp b n lr_pA U 241 q with
  | .inl e => .inl e
  | .inr x => lr_lp b n lr_pO (lr_ch b n lr_pA U) 241 x
theorem c_tl (w : tp_w b n) (hr : lr_r r) (K : tp_K b n M) (hM : M 104 1 = nI r) {G : Nat → Int32 → gs_M → Option (Int32 × gs_M)} {x0 : Int32} {H : Nat} {Pv : lr_V → Prop} (hA : lr_cg b n r M (fun Z => G 6 x0 Z) U) (hT : lr_cq b n r M (fun Z => G 5 x0 Z) (lr_lp b n lr_pA U 241)) (hg : lr_gd n H Pv U) (hg2 : lr_gd n (H + 1) Pv (lr_ch b n lr_pA U)) : lr_cq b n r M (fun Z => f_X3_readTail G Z x0) (lr_tl b n U) := by
  intro q N pre h1 h2 h3 h4
  have w1 := w.1
  obtain ⟨N1, a1, k0, k1, k2⟩ := hT q N pre h1 h2 h3 h4
  unfold lr_tl
  match hR : lr_lp b n lr_pA U 241 q with
  | .inl u =>
    obtain ⟨k3, k4⟩ := k1 u hR
    simp only at k4
    have es : ∀ f Z, l_X3_readTail_8 G x0 (f + 1) (iI 0) (iI 0) Z = some (iI 0, iI 0, Z) := fun f Z => by
      simp only [l_X3_readTail_8]
      simp (disch := omega) only [qn0, qn1, qn2, qn3, qn4, qn5, qn6, qn7, qn8, qn9, qn10, qn11, qn12, qn13, qn14, qn15, qn16, qn17, qn18, qn24, qn30, qn31, qn32, qn33, qn36, qn38, qn40, qn41, qn42, qn43, qn45, qn47, qn48, qn49, qn50, qn51, qn52, qn53, qn57, qn58, qn59, qn60, qn61, qn62, qn63, qn91, qn93, qn97, qn99, qn100, qn103, qn104, qn112, qn113, qn115, qn116, qn118, qn119, qn121, qn124, qn173, qn177, qn240, qn255, qn295, qn352, qn353, qn533, qn999, qn1000, qn1023, qn6561, qn10000, qn20787, qn1000000, qn252645135, qn858993459, qn1000000000, qn1431655765, q_s1, q_s2, q_s3, q_s4, q_s5, iI_add, iI_sub, iI_mul, iI_neg, q_lt, q_le, q_eq, qz0, qz1, qz2, qz3, if_pos, if_neg, reduceIte]
    have es' : l_X3_readTail_8 G x0 gs_FU (iI 0) (iI 0) (tp_m N1 a1 u) = some (iI 0, iI 0, tp_m N1 a1 u) := es _ _
    refine ⟨N1, a1, k0, fun e h => ?_, fun y h => (by cases h)⟩
    cases h
    refine ⟨k3, ?_⟩
    unfold f_X3_readTail
    simp (disch := omega) only [qn0, qn1, qn2, qn3, qn4, qn5, qn6, qn7, qn8, qn9, qn10, qn11, qn12, qn13, qn14, qn15, qn16, qn17, qn18, qn24, qn30, qn31, qn32, qn33, qn36, qn38, qn40, qn41, qn42, qn43, qn45, qn47, qn48, qn49, qn50, qn51, qn52, qn53, qn57, qn58, qn59, qn60, qn61, qn62, qn63, qn91, qn93, qn97, qn99, qn100, qn103, qn104, qn112, qn113, qn115, qn116, qn118, qn119, qn121, qn124, qn173, qn177, qn240, qn255, qn295, qn352, qn353, qn533, qn999, qn1000, qn1023, qn6561, qn10000, qn20787, qn1000000, qn252645135, qn858993459, qn1000000000, qn1431655765, q_s1, q_s2, q_s3, q_s4, q_s5, iI_add, iI_sub, iI_mul, iI_neg, q_lt, q_le, q_eq, qz0, qz1, qz2, qz3, if_pos, if_neg, reduceIte, k4, es']
  | .inr x =>
    obtain ⟨k3, k4⟩ := k2 x hR
    simp only at k4
    obtain ⟨x1, x2, x3⟩ := lr_lp_b w rfl hg 241 q h1 x hR
    rw [List.length_append] at h4
    obtain ⟨N2, a2, m0, m1, m2⟩ := c_lpO w hr K hM hA hT hg hg2 241 0 gs_FU x N1 pre x2 k0 k3 (by rw [List.length_append]; omega) (by omega) (by omega) (by decide)
    refine ⟨N2, a2, m0, fun e h => ?_, fun y h => ?_⟩
    · obtain ⟨m3, j, m4⟩ := m1 e h
      have m4' : l_X3_readTail_8 G x0 gs_FU (iI 1) (iI 0) (tp_m N1 x.1 (-1)) = some (iI 0, j, tp_m N2 a2 e) := m4
      refine ⟨m3, ?_⟩
      unfold f_X3_readTail
      simp (disch := omega) only [qn0, qn1, qn2, qn3, qn4, qn5, qn6, qn7, qn8, qn9, qn10, qn11, qn12, qn13, qn14, qn15, qn16, qn17, qn18, qn24, qn30, qn31, qn32, qn33, qn36, qn38, qn40, qn41, qn42, qn43, qn45, qn47, qn48, qn49, qn50, qn51, qn52, qn53, qn57, qn58, qn59, qn60, qn61, qn62, qn63, qn91, qn93, qn97, qn99, qn100, qn103, qn104, qn112, qn113, qn115, qn116, qn118, qn119, qn121, qn124, qn173, qn177, qn240, qn255, qn295, qn352, qn353, qn533, qn999, qn1000, qn1023, qn6561, qn10000, qn20787, qn1000000, qn252645135, qn858993459, qn1000000000, qn1431655765, q_s1, q_s2, q_s3, q_s4, q_s5, iI_add, iI_sub, iI_mul, iI_neg, q_lt, q_le, q_eq, qz0, qz1, qz2, qz3, if_pos, if_neg, reduceIte, k4, m4']
    · obtain ⟨m3, j, m4⟩ := m2 y h
      have m4' : l_X3_readTail_8 G x0 gs_FU (iI 1) (iI 0) (tp_m N1 x.1 (-1)) = some (iI 1, j, tp_m N2 y.1 (-1)) := m4
      refine ⟨m3, ?_⟩
      unfold f_X3_readTail
      simp (disch := omega) only [qn0, qn1, qn2, qn3, qn4, qn5, qn6, qn7, qn8, qn9, qn10, qn11, qn12, qn13, qn14, qn15, qn16, qn17, qn18, qn24, qn30, qn31, qn32, qn33, qn36, qn38, qn40, qn41, qn42, qn43, qn45, qn47, qn48, qn49, qn50, qn51, qn52, qn53, qn57, qn58, qn59, qn60, qn61, qn62, qn63, qn91, qn93, qn97, qn99, qn100, qn103, qn104, qn112, qn113, qn115, qn116, qn118, qn119, qn121, qn124, qn173, qn177, qn240, qn255, qn295, qn352, qn353, qn533, qn999, qn1000, qn1023, qn6561, qn10000, qn20787, qn1000000, qn252645135, qn858993459, qn1000000000, qn1431655765, q_s1, q_s2, q_s3, q_s4, q_s5, iI_add, iI_sub, iI_mul, iI_neg, q_lt, q_le, q_eq, qz0, qz1, qz2, qz3, if_pos, if_neg, reduceIte, k4, m4']
/-- a condition: a unit, then its tails -/
theorem lr_C_tl (a : Nat) : lr_ch b n lr_pO (lr_ch b n lr_pA U) a = (match U a with | .inl e => .inl e | .inr q => lr_tl b n U q) := by
  unfold lr_ch lr_tl
  cases U a <;> rfl
theorem c_cond (hr : lr_r r) {G : Nat → Int32 → gs_M → Option (Int32 × gs_M)} {x0 : Int32} {H : Nat} {Pv : lr_V → Prop} (hA : lr_cg b n r M (fun Z => G 6 x0 Z) U) (hT : lr_cq b n r M (fun Z => G 4 x0 Z) (lr_tl b n U)) (hg : lr_gd n H Pv U) : lr_cg b n r M (fun Z => f_X3_readCondition G Z x0) (lr_ch b n lr_pO (lr_ch b n lr_pA U)) := by
  intro a N pre ha hX hK hl
  obtain ⟨N1, a1, k0, k1, k2⟩ := hA a N pre ha hX hK hl
  rw [lr_C_tl]
  match hR : U a with
  | .inl u =>
    obtain ⟨k3, k4⟩ := k1 u hR
    simp only at k4
    refine ⟨N1, a1, k0, fun e h => ?_, fun y h => (by cases h)⟩
    cases h
    refine ⟨k3, ?_⟩
    unfold f_X3_readCondition
    simp (disch := omega) only [qn0, qn1, qn2, qn3, qn4, qn5, qn6, qn7, qn8, qn9, qn10, qn11, qn12, qn13, qn14, qn15, qn16, qn17, qn18, qn24, qn30, qn31, qn32, qn33, qn36, qn38, qn40, qn41, qn42, qn43, qn45, qn47, qn48, qn49, qn50, qn51, qn52, qn53, qn57, qn58, qn59, qn60, qn61, qn62, qn63, qn91, qn93, qn97, qn99, qn100, qn103, qn104, qn112, qn113, qn115, qn116, qn118, qn119, qn121, qn124, qn173, qn177, qn240, qn255, qn295, qn352, qn353, qn533, qn999, qn1000, qn1023, qn6561, qn10000, qn20787, qn1000000, qn252645135, qn858993459, qn1000000000, qn1431655765, q_s1, q_s2, q_s3, q_s4, q_s5, iI_add, iI_sub, iI_mul, iI_neg, q_lt, q_le, q_eq, qz0, qz1, qz2, qz3, if_pos, if_neg, reduceIte, k4]
  | .inr q =>
    obtain ⟨k3, k4⟩ := k2 q hR
    simp only at k4
    obtain ⟨q1, q2, q3, -⟩ := (hg a ha).2 q hR
    obtain ⟨N2, a2, m0, m1, m2⟩ := hT q N1 pre q2 k0 k3 (by rw [List.length_append]; omega)
    refine ⟨N2, a2, m0, fun e h => ?_, fun y h => ?_⟩
    · obtain ⟨m3, m4⟩ := m1 e h
      simp only at m4
      refine ⟨m3, ?_⟩
      unfold f_X3_readCondition
      simp (disch := omega) only [qn0, qn1, qn2, qn3, qn4, qn5, qn6, qn7, qn8, qn9, qn10, qn11, qn12, qn13, qn14, qn15, qn16, qn17, qn18, qn24, qn30, qn31, qn32, qn33, qn36, qn38, qn40, qn41, qn42, qn43, qn45, qn47, qn48, qn49, qn50, qn51, qn52, qn53, qn57, qn58, qn59, qn60, qn61, qn62, qn63, qn91, qn93, qn97, qn99, qn100, qn103, qn104, qn112, qn113, qn115, qn116, qn118, qn119, qn121, qn124, qn173, qn177, qn240, qn255, qn295, qn352, qn353, qn533, qn999, qn1000, qn1023, qn6561, qn10000, qn20787, qn1000000, qn252645135, qn858993459, qn1000000000, qn1431655765, q_s1, q_s2, q_s3, q_s4, q_s5, iI_add, iI_sub, iI_mul, iI_neg, q_lt, q_le, q_eq, qz0, qz1, qz2, qz3, if_pos, if_neg, reduceIte, k4, m4]
    · obtain ⟨m3, m4⟩ := m2 y h
      simp only at m4
      refine ⟨m3, ?_⟩
      unfold f_X3_readCondition
      simp (disch := omega) only [qn0, qn1, qn2, qn3, qn4, qn5, qn6, qn7, qn8, qn9, qn10, qn11, qn12, qn13, qn14, qn15, qn16, qn17, qn18, qn24, qn30, qn31, qn32, qn33, qn36, qn38, qn40, qn41, qn42, qn43, qn45, qn47, qn48, qn49, qn50, qn51, qn52, qn53, qn57, qn58, qn59, qn60, qn61, qn62, qn63, qn91, qn93, qn97, qn99, qn100, qn103, qn104, qn112, qn113, qn115, qn116, qn118, qn119, qn121, qn124, qn173, qn177, qn240, qn255, qn295, qn352, qn353, qn533, qn999, qn1000, qn1023, qn6561, qn10000, qn20787, qn1000000, qn252645135, qn858993459, qn1000000000, qn1431655765, q_s1, q_s2, q_s3, q_s4, q_s5, iI_add, iI_sub, iI_mul, iI_neg, q_lt, q_le, q_eq, qz0, qz1, qz2, qz3, if_pos, if_neg, reduceIte, k4, m4]
end Law10
