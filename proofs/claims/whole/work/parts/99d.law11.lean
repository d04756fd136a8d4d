/-! units read by the class -/
section Law11
variable {b : Nat → Int} {n r : Nat} {M N : gs_M} {S : Nat → lr_R}
theorem lr_atom_s {I : Option (Nat → lr_R)} {a : Nat} (ha : a ≤ n) : lr_atom b n I (tp_s b n a) = lr_atom b n I a := by
  unfold lr_atom
  rw [tp_ss ha, tp_ll ha, tp_n_s ha]
theorem lr_ch_s {P : Int → Bool} {A : Nat → lr_R} {a : Nat} (h : A (tp_s b n a) = A a) : lr_ch b n P A (tp_s b n a) = lr_ch b n P A a := by
  unfold lr_ch
  rw [h]
theorem lr_S_s (k : Nat) {a : Nat} (ha : a ≤ n) : lr_S b n k (tp_s b n a) = lr_S b n k a := by
  cases k with
  | zero => exact lr_ch_s (lr_ch_s (lr_atom_s ha))
  | succ k => exact lr_ch_s (lr_ch_s (lr_atom_s ha))
theorem c_unit (w : tp_w b n) (hr : lr_r r) (K : tp_K b n M) (hM : M 104 1 = nI r) {G : Nat → Int32 → gs_M → Option (Int32 × gs_M)} {dp H H2 : Nat} (hS : lr_cg b n r M (fun Z => G 0 (iI (dp : Int)) Z) S) (hC : lr_cq b n r M (fun Z => G 7 (iI (dp : Int)) Z) (lr_cm b n S)) (hSg : lr_gd n H2 lr_num S) (hSs : ∀ a, a ≤ n → S (tp_s b n a) = S a) {I : Option ((Nat → lr_R) × (Nat → lr_R))} (hI : (dp = 6 ∧ I = none) ∨ (dp < 6 ∧ ∃ J, I = some J ∧ lr_cg b n r M (fun Z => G 6 (iI ((dp : Int) + 1)) Z) J.1 ∧ lr_cg b n r M (fun Z => G 3 (iI ((dp : Int) + 1)) Z) J.2 ∧ lr_gd n H lr_tru J.1 ∧ lr_gd n H lr_tru J.2)) : lr_cg b n r M (fun Z => f_X3_readUnit G Z (iI (dp : Int))) (lr_unit b n S I) := by
  intro a N pre ha hX hK hlen
  have w1 := w.1
  have KN := hX.K hr K
  have hs := tp_s_b (b := b) ha
  have hl := tp_l_b (a := a) w
  have e1 := c_look (t := -1) w KN ha
  have ef := c_fail (M := N) (a := tp_s b n a)
  have en : (-33 : Int32) = iI (-33) := rfl
  by_cases c : tp_l b n a = 33
  · rcases hI with ⟨h6, rfl⟩ | ⟨h6, J, rfl, hJ1, hJ2, hg1, hg2⟩
    · have e : lr_unit b n S none a = .inl (tp_s b n a) := by
        unfold lr_unit
        rw [if_pos c]
      rw [e]
      refine ⟨N, tp_s b n a, hX, fun u h => ?_, fun q h => (by cases h)⟩
      cases h
      refine ⟨hK.cnt (by omega), ?_⟩
      unfold f_X3_readUnit
      simp (disch := omega) only [qn0, qn1, qn2, qn3, qn4, qn5, qn6, qn7, qn8, qn9, qn10, qn11, qn12, qn13, qn14, qn15, qn16, qn17, qn18, qn24, qn30, qn31, qn32, qn33, qn36, qn38, qn40, qn41, qn42, qn43, qn45, qn47, qn48, qn49, qn50, qn51, qn52, qn53, qn57, qn58, qn59, qn60, qn61, qn62, qn63, qn91, qn93, qn97, qn99, qn100, qn103, qn104, qn112, qn113, qn115, qn116, qn118, qn119, qn121, qn124, qn173, qn177, qn240, qn255, qn295, qn352, qn353, qn533, qn999, qn1000, qn1023, qn6561, qn10000, qn20787, qn1000000, qn252645135, qn858993459, qn1000000000, qn1431655765, q_s1, q_s2, q_s3, q_s4, q_s5, iI_add, iI_sub, iI_mul, iI_neg, q_lt, q_le, q_eq, qz0, qz1, qz2, qz3, if_pos, if_neg, reduceIte, e1, c, ef]
    · have e2 := c_step1 (t := -1) w KN (a := tp_s b n a) (by omega)
      obtain ⟨N1, a1, k0, k1, k2⟩ := hJ1 (tp_s b n a + 1) N pre (by omega) hX hK (by omega)
      have eW : ∀ a' t', gs_ckW (tp_m N1 a' t' 104 1).toNatClampNeg = some r := fun a' t' => c_ckW hr hM k0
      match hR : J.1 (tp_s b n a + 1) with
      | .inl u =>
        obtain ⟨k3, k4⟩ := k1 u hR
        simp only at k4
        have e : lr_unit b n S (some J) a = .inl u := by
          unfold lr_unit
          rw [if_pos c]
          simp only [hR]
        obtain ⟨N2, p1, p2, p3, -⟩ := c_lput0 (a := a1) (t := (u : Int)) hr k3 (iI (-33))
        rw [e]
        refine ⟨N2, a1, k0.tr p3, fun u h => ?_, fun q h => (by cases h)⟩
        cases h
        refine ⟨p2, ?_⟩
        unfold f_X3_readUnit
        simp (disch := omega) only [qn0, qn1, qn2, qn3, qn4, qn5, qn6, qn7, qn8, qn9, qn10, qn11, qn12, qn13, qn14, qn15, qn16, qn17, qn18, qn24, qn30, qn31, qn32, qn33, qn36, qn38, qn40, qn41, qn42, qn43, qn45, qn47, qn48, qn49, qn50, qn51, qn52, qn53, qn57, qn58, qn59, qn60, qn61, qn62, qn63, qn91, qn93, qn97, qn99, qn100, qn103, qn104, qn112, qn113, qn115, qn116, qn118, qn119, qn121, qn124, qn173, qn177, qn240, qn255, qn295, qn352, qn353, qn533, qn999, qn1000, qn1023, qn6561, qn10000, qn20787, qn1000000, qn252645135, qn858993459, qn1000000000, qn1431655765, q_s1, q_s2, q_s3, q_s4, q_s5, iI_add, iI_sub, iI_mul, iI_neg, q_lt, q_le, q_eq, qz0, qz1, qz2, qz3, if_pos, if_neg, reduceIte, e1, c, e2, k4, eW, en, p1]
      | .inr q =>
        obtain ⟨k3, k4⟩ := k2 q hR
        simp only at k4
        obtain ⟨q1, q2, q3, -⟩ := (hg1 (tp_s b n a + 1) (by omega)).2 q hR
        have e : lr_unit b n S (some J) a = .inr (q.1, q.2.1 ++ [-33], fun e => 1 - q.2.2 e) := by
          unfold lr_unit
          rw [if_pos c]
          simp only [hR]
        obtain ⟨N2, p1, p2, p3⟩ := c_lput (a := q.1) (t := -1) hr k3 (by rw [List.length_append]; omega) (-33)
        rw [e]
        refine ⟨N2, 0, k0.tr p3, fun u h => (by cases h), fun y h => ?_⟩
        cases h
        refine ⟨?_, ?_⟩
        · show lr_K r (pre ++ (q.2.1 ++ [-33])) N2
          rw [← List.append_assoc]
          exact p2
        · unfold f_X3_readUnit
          simp (disch := omega) only [qn0, qn1, qn2, qn3, qn4, qn5, qn6, qn7, qn8, qn9, qn10, qn11, qn12, qn13, qn14, qn15, qn16, qn17, qn18, qn24, qn30, qn31, qn32, qn33, qn36, qn38, qn40, qn41, qn42, qn43, qn45, qn47, qn48, qn49, qn50, qn51, qn52, qn53, qn57, qn58, qn59, qn60, qn61, qn62, qn63, qn91, qn93, qn97, qn99, qn100, qn103, qn104, qn112, qn113, qn115, qn116, qn118, qn119, qn121, qn124, qn173, qn177, qn240, qn255, qn295, qn352, qn353, qn533, qn999, qn1000, qn1023, qn6561, qn10000, qn20787, qn1000000, qn252645135, qn858993459, qn1000000000, qn1431655765, q_s1, q_s2, q_s3, q_s4, q_s5, iI_add, iI_sub, iI_mul, iI_neg, q_lt, q_le, q_eq, qz0, qz1, qz2, qz3, if_pos, if_neg, reduceIte, e1, c, e2, k4, eW, en, p1]
  · by_cases c2 : tp_l b n a = 40
    · rcases hI with ⟨h6, rfl⟩ | ⟨h6, J, rfl, hJ1, hJ2, hg1, hg2⟩
      · have e : lr_unit b n S none a = .inl (tp_s b n a) := by
          unfold lr_unit
          rw [if_neg c, if_pos c2]
        rw [e]
        refine ⟨N, tp_s b n a, hX, fun u h => ?_, fun q h => (by cases h)⟩
        cases h
        refine ⟨hK.cnt (by omega), ?_⟩
        unfold f_X3_readUnit
        simp (disch := omega) only [qn0, qn1, qn2, qn3, qn4, qn5, qn6, qn7, qn8, qn9, qn10, qn11, qn12, qn13, qn14, qn15, qn16, qn17, qn18, qn24, qn30, qn31, qn32, qn33, qn36, qn38, qn40, qn41, qn42, qn43, qn45, qn47, qn48, qn49, qn50, qn51, qn52, qn53, qn57, qn58, qn59, qn60, qn61, qn62, qn63, qn91, qn93, qn97, qn99, qn100, qn103, qn104, qn112, qn113, qn115, qn116, qn118, qn119, qn121, qn124, qn173, qn177, qn240, qn255, qn295, qn352, qn353, qn533, qn999, qn1000, qn1023, qn6561, qn10000, qn20787, qn1000000, qn252645135, qn858993459, qn1000000000, qn1431655765, q_s1, q_s2, q_s3, q_s4, q_s5, iI_add, iI_sub, iI_mul, iI_neg, q_lt, q_le, q_eq, qz0, qz1, qz2, qz3, if_pos, if_neg, reduceIte, e1, c2, ef]
      · have e : lr_unit b n S (some J) a = lr_cs b n 41 (J.2 (tp_s b n a + 1)) := by
          unfold lr_unit
          rw [if_neg c, if_pos c2]
        rw [e]
        have e2 := c_step1 (t := -1) w KN (a := tp_s b n a) (by omega)
        obtain ⟨N1, a1, k0, k1, k2⟩ := hJ2 (tp_s b n a + 1) N pre (by omega) hX hK (by omega)
        match hR : J.2 (tp_s b n a + 1) with
        | .inl u =>
          obtain ⟨k3, k4⟩ := k1 u hR
          simp only at k4
          refine ⟨N1, a1, k0, fun u h => ?_, fun q h => (by cases h)⟩
          cases h
          refine ⟨k3, ?_⟩
          unfold f_X3_readUnit
          simp (disch := omega) only [qn0, qn1, qn2, qn3, qn4, qn5, qn6, qn7, qn8, qn9, qn10, qn11, qn12, qn13, qn14, qn15, qn16, qn17, qn18, qn24, qn30, qn31, qn32, qn33, qn36, qn38, qn40, qn41, qn42, qn43, qn45, qn47, qn48, qn49, qn50, qn51, qn52, qn53, qn57, qn58, qn59, qn60, qn61, qn62, qn63, qn91, qn93, qn97, qn99, qn100, qn103, qn104, qn112, qn113, qn115, qn116, qn118, qn119, qn121, qn124, qn173, qn177, qn240, qn255, qn295, qn352, qn353, qn533, qn999, qn1000, qn1023, qn6561, qn10000, qn20787, qn1000000, qn252645135, qn858993459, qn1000000000, qn1431655765, q_s1, q_s2, q_s3, q_s4, q_s5, iI_add, iI_sub, iI_mul, iI_neg, q_lt, q_le, q_eq, qz0, qz1, qz2, qz3, if_pos, if_neg, reduceIte, e1, c2, e2, k4]
        | .inr q =>
          obtain ⟨k3, k4⟩ := k2 q hR
          simp only at k4
          obtain ⟨q1, q2, q3, -⟩ := (hg2 (tp_s b n a + 1) (by omega)).2 q hR
          have e4 := c_take w (k0.K hr K) q2 (c := 41) (by decide)
          have hlen2 : (pre ++ q.2.1).length ≤ 240 := by
            rw [List.length_append]
            omega
          by_cases c5 : tp_l b n q.1 = 41
          · have ee : lr_cs b n 41 (.inr q) = .inr (tp_s b n q.1 + 1, q.2) := if_pos c5
            rw [if_pos c5] at e4
            rw [ee]
            refine ⟨N1, 0, k0, fun u h => (by cases h), fun q' h => ?_⟩
            cases h
            refine ⟨k3, ?_⟩
            unfold f_X3_readUnit
            simp (disch := omega) only [qn0, qn1, qn2, qn3, qn4, qn5, qn6, qn7, qn8, qn9, qn10, qn11, qn12, qn13, qn14, qn15, qn16, qn17, qn18, qn24, qn30, qn31, qn32, qn33, qn36, qn38, qn40, qn41, qn42, qn43, qn45, qn47, qn48, qn49, qn50, qn51, qn52, qn53, qn57, qn58, qn59, qn60, qn61, qn62, qn63, qn91, qn93, qn97, qn99, qn100, qn103, qn104, qn112, qn113, qn115, qn116, qn118, qn119, qn121, qn124, qn173, qn177, qn240, qn255, qn295, qn352, qn353, qn533, qn999, qn1000, qn1023, qn6561, qn10000, qn20787, qn1000000, qn252645135, qn858993459, qn1000000000, qn1431655765, q_s1, q_s2, q_s3, q_s4, q_s5, iI_add, iI_sub, iI_mul, iI_neg, q_lt, q_le, q_eq, qz0, qz1, qz2, qz3, if_pos, if_neg, reduceIte, e1, c2, e2, k4, e4]
          · have ee : lr_cs b n 41 (.inr q) = .inl (tp_s b n q.1) := if_neg c5
            rw [if_neg c5] at e4
            rw [ee]
            refine ⟨N1, tp_s b n q.1, k0, fun u h => ?_, fun q h => (by cases h)⟩
            cases h
            refine ⟨k3.cnt hlen2, ?_⟩
            unfold f_X3_readUnit
            simp (disch := omega) only [qn0, qn1, qn2, qn3, qn4, qn5, qn6, qn7, qn8, qn9, qn10, qn11, qn12, qn13, qn14, qn15, qn16, qn17, qn18, qn24, qn30, qn31, qn32, qn33, qn36, qn38, qn40, qn41, qn42, qn43, qn45, qn47, qn48, qn49, qn50, qn51, qn52, qn53, qn57, qn58, qn59, qn60, qn61, qn62, qn63, qn91, qn93, qn97, qn99, qn100, qn103, qn104, qn112, qn113, qn115, qn116, qn118, qn119, qn121, qn124, qn173, qn177, qn240, qn255, qn295, qn352, qn353, qn533, qn999, qn1000, qn1023, qn6561, qn10000, qn20787, qn1000000, qn252645135, qn858993459, qn1000000000, qn1431655765, q_s1, q_s2, q_s3, q_s4, q_s5, iI_add, iI_sub, iI_mul, iI_neg, q_lt, q_le, q_eq, qz0, qz1, qz2, qz3, if_pos, if_neg, reduceIte, e1, c2, e2, k4, e4]
    · obtain ⟨N1, a1, k0, k1, k2⟩ := hS (tp_s b n a) N pre hs.2 hX hK (by omega)
      have hSs' := hSs a ha
      match hR : S a with
      | .inl u =>
        obtain ⟨k3, k4⟩ := k1 u (hSs'.trans hR)
        simp only at k4
        have e : lr_unit b n S I a = .inl u := by
          unfold lr_unit
          rw [if_neg c, if_neg c2, hR]
        rw [e]
        refine ⟨N1, a1, k0, fun u h => ?_, fun q h => (by cases h)⟩
        cases h
        refine ⟨k3, ?_⟩
        unfold f_X3_readUnit
        simp (disch := omega) only [qn0, qn1, qn2, qn3, qn4, qn5, qn6, qn7, qn8, qn9, qn10, qn11, qn12, qn13, qn14, qn15, qn16, qn17, qn18, qn24, qn30, qn31, qn32, qn33, qn36, qn38, qn40, qn41, qn42, qn43, qn45, qn47, qn48, qn49, qn50, qn51, qn52, qn53, qn57, qn58, qn59, qn60, qn61, qn62, qn63, qn91, qn93, qn97, qn99, qn100, qn103, qn104, qn112, qn113, qn115, qn116, qn118, qn119, qn121, qn124, qn173, qn177, qn240, qn255, qn295, qn352, qn353, qn533, qn999, qn1000, qn1023, qn6561, qn10000, qn20787, qn1000000, qn252645135, qn858993459, qn1000000000, qn1431655765, q_s1, q_s2, q_s3, q_s4, q_s5, iI_add, iI_sub, iI_mul, iI_neg, q_lt, q_le, q_eq, qz0, qz1, qz2, qz3, if_pos, if_neg, reduceIte, e1, k4]
      | .inr q =>
        obtain ⟨k3, k4⟩ := k2 q (hSs'.trans hR)
        simp only at k4
        obtain ⟨q1, q2, q3, -⟩ := (hSg a ha).2 q hR
        have e : lr_unit b n S I a = lr_cm b n S q := by
          unfold lr_unit
          rw [if_neg c, if_neg c2, hR]
        rw [e]
        obtain ⟨N2, a2, m0, m1, m2⟩ := hC q N1 pre q2 k0 k3 (by rw [List.length_append]; omega)
        refine ⟨N2, a2, m0, fun u h => ?_, fun y h => ?_⟩
        · obtain ⟨m3, m4⟩ := m1 u h
          simp only at m4
          refine ⟨m3, ?_⟩
          unfold f_X3_readUnit
          simp (disch := omega) only [qn0, qn1, qn2, qn3, qn4, qn5, qn6, qn7, qn8, qn9, qn10, qn11, qn12, qn13, qn14, qn15, qn16, qn17, qn18, qn24, qn30, qn31, qn32, qn33, qn36, qn38, qn40, qn41, qn42, qn43, qn45, qn47, qn48, qn49, qn50, qn51, qn52, qn53, qn57, qn58, qn59, qn60, qn61, qn62, qn63, qn91, qn93, qn97, qn99, qn100, qn103, qn104, qn112, qn113, qn115, qn116, qn118, qn119, qn121, qn124, qn173, qn177, qn240, qn255, qn295, qn352, qn353, qn533, qn999, qn1000, qn1023, qn6561, qn10000, qn20787, qn1000000, qn252645135, qn858993459, qn1000000000, qn1431655765, q_s1, q_s2, q_s3, q_s4, q_s5, iI_add, iI_sub, iI_mul, iI_neg, q_lt, q_le, q_eq, qz0, qz1, qz2, qz3, if_pos, if_neg, reduceIte, e1, k4, m4]
        · obtain ⟨m3, m4⟩ := m2 y h
          simp only at m4
          refine ⟨m3, ?_⟩
          unfold f_X3_readUnit
          simp (disch := omega) only [qn0, qn1, qn2, qn3, qn4, qn5, qn6, qn7, qn8, qn9, qn10, qn11, qn12, qn13, qn14, qn15, qn16, qn17, qn18, qn24, qn30, qn31, qn32, qn33, qn36, qn38, qn40, qn41, qn42, qn43, qn45, qn47, qn48, qn49, qn50, qn51, qn52, qn53, qn57, qn58, qn59, qn60, qn61, qn62, qn63, qn91, qn93, qn97, qn99, qn100, qn103, qn104, qn112, qn113, qn115, qn116, qn118, qn119, qn121, qn124, qn173, qn177, qn240, qn255, qn295, qn352, qn353, qn533, qn999, qn1000, qn1023, qn6561, qn10000, qn20787, qn1000000, qn252645135, qn858993459, qn1000000000, qn1431655765, q_s1, q_s2, q_s3, q_s4, q_s5, iI_add, iI_sub, iI_mul, iI_neg, q_lt, q_le, q_eq, qz0, qz1, qz2, qz3, if_pos, if_neg, reduceIte, e1, k4, m4]
end Law11
