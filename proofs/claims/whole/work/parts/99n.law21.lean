/-! the model reads a LAW: comparisons, units, conditions -/
def lr_mq (b : Nat → Int) (n : Nat) (N : gs_M) (e : Nat → Int) (dp : Nat) (F : Int32 → gs_M → Option (Int32 × gs_M)) (B : lr_Q → lr_R) : Prop := ∀ q : lr_Q, q.1 ≤ n → (-2147483648 ≤ q.2.2 e ∧ q.2.2 e ≤ 2147483647) → (∀ u, B q = .inl u → ∃ v x a', lm_tr v ∧ F (iI (q.2.2 e)) (lm_m N (iI (dp : Int)) q.1 (-1)) = some (v, lm_m N x a' (u : Nat))) ∧ ∀ y, B q = .inr y → F (iI (q.2.2 e)) (lm_m N (iI (dp : Int)) q.1 (-1)) = some (iI (y.2.2 e), lm_m N (iI (dp : Int)) y.1 (-1))
/-- a sum and a comparison -/
def lr_sc (b : Nat → Int) (n : Nat) (S : Nat → lr_R) (a : Nat) : lr_R := match S a with
  | .inl e => .inl e
  | .inr q => lr_cm b n S q
theorem lm_trI {z : Int} (h : z = 0 ∨ z = 1) : lm_tr (iI z) := by
  rcases h with rfl | rfl
  · exact Or.inl rfl
  · exact Or.inr rfl
section Law21
variable {b : Nat → Int} {n r o : Nat} {N : gs_M} {A S U : Nat → lr_R} {e : Nat → Int}
theorem m_sg {z : Int} (h : -1 ≤ z ∧ z ≤ 255) : f_X12_isSign (iI z) = some (if lr_pC z = true then iI 1 else iI 0) := by
  unfold f_X12_isSign
  by_cases c : lr_pC z = true
  · rw [if_pos c]
    rcases lr_pC_h z c with rfl | rfl | rfl <;> decide +kernel
  · rw [if_neg c]
    simp only [lr_pC, Bool.or_eq_true, beq_iff_eq] at c
    simp (disch := omega) only [qn0, qn1, qn2, qn3, qn4, qn5, qn6, qn7, qn8, qn9, qn10, qn11, qn12, qn13, qn14, qn15, qn16, qn17, qn18, qn24, qn30, qn31, qn32, qn33, qn36, qn38, qn40, qn41, qn42, qn43, qn45, qn47, qn48, qn49, qn50, qn51, qn52, qn53, qn57, qn58, qn59, qn60, qn61, qn62, qn63, qn91, qn93, qn97, qn99, qn100, qn103, qn104, qn112, qn113, qn115, qn116, qn118, qn119, qn121, qn124, qn173, qn177, qn240, qn255, qn295, qn352, qn353, qn533, qn999, qn1000, qn1023, qn6561, qn10000, qn20787, qn1000000, qn252645135, qn858993459, qn1000000000, qn1431655765, q_s1, q_s2, q_s3, q_s4, q_s5, iI_add, iI_sub, iI_mul, iI_neg, q_lt, q_le, q_eq, qz0, qz1, qz2, qz3, if_pos, if_neg, reduceIte]
theorem m_cmv {z x y : Int} (hz : z = 61 ∨ z = 60 ∨ z = 62) (hx : -2147483648 ≤ x ∧ x ≤ 2147483647) (hy : -2147483648 ≤ y ∧ y ≤ 2147483647) : gs_ckZ (if iI z = (61 : Int32) then if iI x = iI y then (1 : Int32) else (0 : Int32) else if iI z = (60 : Int32) then if iI y ≤ iI x then (0 : Int32) else (1 : Int32) else if iI x ≤ iI y then (0 : Int32) else (1 : Int32) : Int32) = some (iI (lr_op z x y)) := by
  rcases hz with rfl | rfl | rfl
  · by_cases c : x = y
    · have ho : lr_op 61 x y = 1 := by
        show (if x = y then (1 : Int) else 0) = 1
        rw [if_pos c]
      rw [ho]
      simp (disch := omega) only [qn0, qn1, qn2, qn3, qn4, qn5, qn6, qn7, qn8, qn9, qn10, qn11, qn12, qn13, qn14, qn15, qn16, qn17, qn18, qn24, qn30, qn31, qn32, qn33, qn36, qn38, qn40, qn41, qn42, qn43, qn45, qn47, qn48, qn49, qn50, qn51, qn52, qn53, qn57, qn58, qn59, qn60, qn61, qn62, qn63, qn91, qn93, qn97, qn99, qn100, qn103, qn104, qn112, qn113, qn115, qn116, qn118, qn119, qn121, qn124, qn173, qn177, qn240, qn255, qn295, qn352, qn353, qn533, qn999, qn1000, qn1023, qn6561, qn10000, qn20787, qn1000000, qn252645135, qn858993459, qn1000000000, qn1431655765, q_s1, q_s2, q_s3, q_s4, q_s5, iI_add, iI_sub, iI_mul, iI_neg, q_lt, q_le, q_eq, qz0, qz1, qz2, qz3, if_pos, if_neg, reduceIte]
    · have ho : lr_op 61 x y = 0 := by
        show (if x = y then (1 : Int) else 0) = 0
        rw [if_neg c]
      rw [ho]
      simp (disch := omega) only [qn0, qn1, qn2, qn3, qn4, qn5, qn6, qn7, qn8, qn9, qn10, qn11, qn12, qn13, qn14, qn15, qn16, qn17, qn18, qn24, qn30, qn31, qn32, qn33, qn36, qn38, qn40, qn41, qn42, qn43, qn45, qn47, qn48, qn49, qn50, qn51, qn52, qn53, qn57, qn58, qn59, qn60, qn61, qn62, qn63, qn91, qn93, qn97, qn99, qn100, qn103, qn104, qn112, qn113, qn115, qn116, qn118, qn119, qn121, qn124, qn173, qn177, qn240, qn255, qn295, qn352, qn353, qn533, qn999, qn1000, qn1023, qn6561, qn10000, qn20787, qn1000000, qn252645135, qn858993459, qn1000000000, qn1431655765, q_s1, q_s2, q_s3, q_s4, q_s5, iI_add, iI_sub, iI_mul, iI_neg, q_lt, q_le, q_eq, qz0, qz1, qz2, qz3, if_pos, if_neg, reduceIte]
  · by_cases c : x < y
    · have ho : lr_op 60 x y = 1 := by
        show (if x < y then (1 : Int) else 0) = 1
        rw [if_pos c]
      rw [ho]
      simp (disch := omega) only [qn0, qn1, qn2, qn3, qn4, qn5, qn6, qn7, qn8, qn9, qn10, qn11, qn12, qn13, qn14, qn15, qn16, qn17, qn18, qn24, qn30, qn31, qn32, qn33, qn36, qn38, qn40, qn41, qn42, qn43, qn45, qn47, qn48, qn49, qn50, qn51, qn52, qn53, qn57, qn58, qn59, qn60, qn61, qn62, qn63, qn91, qn93, qn97, qn99, qn100, qn103, qn104, qn112, qn113, qn115, qn116, qn118, qn119, qn121, qn124, qn173, qn177, qn240, qn255, qn295, qn352, qn353, qn533, qn999, qn1000, qn1023, qn6561, qn10000, qn20787, qn1000000, qn252645135, qn858993459, qn1000000000, qn1431655765, q_s1, q_s2, q_s3, q_s4, q_s5, iI_add, iI_sub, iI_mul, iI_neg, q_lt, q_le, q_eq, qz0, qz1, qz2, qz3, if_pos, if_neg, reduceIte]
    · have ho : lr_op 60 x y = 0 := by
        show (if x < y then (1 : Int) else 0) = 0
        rw [if_neg c]
      rw [ho]
      simp (disch := omega) only [qn0, qn1, qn2, qn3, qn4, qn5, qn6, qn7, qn8, qn9, qn10, qn11, qn12, qn13, qn14, qn15, qn16, qn17, qn18, qn24, qn30, qn31, qn32, qn33, qn36, qn38, qn40, qn41, qn42, qn43, qn45, qn47, qn48, qn49, qn50, qn51, qn52, qn53, qn57, qn58, qn59, qn60, qn61, qn62, qn63, qn91, qn93, qn97, qn99, qn100, qn103, qn104, qn112, qn113, qn115, qn116, qn118, qn119, qn121, qn124, qn173, qn177, qn240, qn255, qn295, qn352, qn353, qn533, qn999, qn1000, qn1023, qn6561, qn10000, qn20787, qn1000000, qn252645135, qn858993459, qn1000000000, qn1431655765, q_s1, q_s2, q_s3, q_s4, q_s5, iI_add, iI_sub, iI_mul, iI_neg, q_lt, q_le, q_eq, qz0, qz1, qz2, qz3, if_pos, if_neg, reduceIte]
  · by_cases c : y < x
    · have ho : lr_op 62 x y = 1 := by
        show (if y < x then (1 : Int) else 0) = 1
        rw [if_pos c]
      rw [ho]
      simp (disch := omega) only [qn0, qn1, qn2, qn3, qn4, qn5, qn6, qn7, qn8, qn9, qn10, qn11, qn12, qn13, qn14, qn15, qn16, qn17, qn18, qn24, qn30, qn31, qn32, qn33, qn36, qn38, qn40, qn41, qn42, qn43, qn45, qn47, qn48, qn49, qn50, qn51, qn52, qn53, qn57, qn58, qn59, qn60, qn61, qn62, qn63, qn91, qn93, qn97, qn99, qn100, qn103, qn104, qn112, qn113, qn115, qn116, qn118, qn119, qn121, qn124, qn173, qn177, qn240, qn255, qn295, qn352, qn353, qn533, qn999, qn1000, qn1023, qn6561, qn10000, qn20787, qn1000000, qn252645135, qn858993459, qn1000000000, qn1431655765, q_s1, q_s2, q_s3, q_s4, q_s5, iI_add, iI_sub, iI_mul, iI_neg, q_lt, q_le, q_eq, qz0, qz1, qz2, qz3, if_pos, if_neg, reduceIte]
    · have ho : lr_op 62 x y = 0 := by
        show (if y < x then (1 : Int) else 0) = 0
        rw [if_neg c]
      rw [ho]
      simp (disch := omega) only [qn0, qn1, qn2, qn3, qn4, qn5, qn6, qn7, qn8, qn9, qn10, qn11, qn12, qn13, qn14, qn15, qn16, qn17, qn18, qn24, qn30, qn31, qn32, qn33, qn36, qn38, qn40, qn41, qn42, qn43, qn45, qn47, qn48, qn49, qn50, qn51, qn52, qn53, qn57, qn58, qn59, qn60, qn61, qn62, qn63, qn91, qn93, qn97, qn99, qn100, qn103, qn104, qn112, qn113, qn115, qn116, qn118, qn119, qn121, qn124, qn173, qn177, qn240, qn255, qn295, qn352, qn353, qn533, qn999, qn1000, qn1023, qn6561, qn10000, qn20787, qn1000000, qn252645135, qn858993459, qn1000000000, qn1431655765, q_s1, q_s2, q_s3, q_s4, q_s5, iI_add, iI_sub, iI_mul, iI_neg, q_lt, q_le, q_eq, qz0, qz1, qz2, qz3, if_pos, if_neg, reduceIte]
/-- behind the left side -/
def cm_B (G : Nat → Int32 → Int32 → gs_M → Option (Int32 × gs_M)) (y1 : Int32) (M2 : gs_M) : Option (Int32 × gs_M) :=
  if (M2 147 11) = (-1 : Int32) then
  gs_b2 (f_X12_look M2) fun v10 M11 =>
  gs_b1 (f_X12_isSign v10) fun v13 =>
  if v13 = (0 : Int32) then
  gs_b2 (f_X12_fails M11) fun v29 M30 =>
  gs_b1 (gs_ckZ v29) fun z32 =>
  some (z32, M30)
  else
  gs_b1 (some (gs_up M11 147 10 ((M11 147 10) + (1 : Int32)))) fun M17 =>
  gs_b2 (G 2 0 0 M17) fun v18 M19 =>
  gs_b1 (gs_ckZ (if v10 = (61 : Int32) then if y1 = v18 then (1 : Int32) else (0 : Int32) else if v10 = (60 : Int32) then if v18 ≤ y1 then (0 : Int32) else (1 : Int32) else if y1 ≤ v18 then (0 : Int32) else (1 : Int32) : Int32)) fun z21 =>
  some (z21, M19)
  else
  some ((0 : Int32), M2)
theorem lq_eq (G : Nat → Int32 → Int32 → gs_M → Option (Int32 × gs_M)) (M : gs_M) (x1 x2 : Int32) : f_X12_compares G M x1 x2 = gs_b2 (if x1 = (0 : Int32) then gs_b2 (G 2 0 0 M) fun v6 M7 => some (v6, M7) else some (x2, M)) fun y1 M2 => cm_B G y1 M2 := rfl
set_option maxHeartbeats 20000000 in
theorem m_cmB (w : tp_w b n) (K : md_K r o b n N) (he : lm_e e N) {G : Nat → Int32 → Int32 → gs_M → Option (Int32 × gs_M)} {dp H : Nat} (hS : lr_mg b n N e dp lm_any (fun Z => G 2 (iI 0) (iI 0) Z) S) (hg : lr_gd n H lr_num S) : lr_mq b n N e dp (fun v Z => cm_B G v Z) (lr_cm b n S) := by
  intro q h1 hq
  have w1 := w.1
  have hs := tp_s_b (b := b) h1
  have hl := tp_l_b (a := q.1) w
  have e1 := lm_look (x := iI (dp : Int)) (t := -1) w K h1
  have ec := m_sg (z := tp_l b n q.1) (by omega)
  by_cases c : lr_pC (tp_l b n q.1) = true
  · have hz := lr_pC_h _ c
    rw [if_pos c] at ec
    obtain ⟨k1, k2⟩ := hS (tp_s b n q.1 + 1) (by omega)
    have hA' := hg (tp_s b n q.1 + 1) (by omega)
    have step : ∀ (y0 : Int) (x' : Int32) (a' : Nat) (t' : Int), -2147483648 ≤ y0 ∧ y0 ≤ 2147483647 → G 2 (iI 0) (iI 0) (lm_m N (iI (dp : Int)) (tp_s b n q.1 + 1) (-1)) = some (iI y0, lm_m N x' a' t') → cm_B G (iI (q.2.2 e)) (lm_m N (iI (dp : Int)) q.1 (-1)) = some (iI (lr_op (tp_l b n q.1) (q.2.2 e) y0), lm_m N x' a' t') := by
      intro y0 x' a' t' hy hG
      have hG' : G 2 0 0 (lm_m N (iI (dp : Int)) (tp_s b n q.1 + 1) (-1)) = some (iI y0, lm_m N x' a' t') := hG
      have hv := m_cmv hz hq hy
      have e10 : gs_up (lm_m N (iI (dp : Int)) (tp_s b n q.1) (-1)) 147 10 ((lm_m N (iI (dp : Int)) (tp_s b n q.1) (-1)) 147 10 + (1 : Int32)) = lm_m N (iI (dp : Int)) (tp_s b n q.1 + 1) (-1) := by
        rw [lm_10, qn1, iI_add]
        exact lm_s
      unfold cm_B
      rw [lm_11, if_pos (by rfl), e1, q_s2, ec, q_s1, if_neg (by decide), e10, q_s1, hG', q_s2, hv, q_s1]
    match hR : S (tp_s b n q.1 + 1) with
    | .inl u =>
      obtain ⟨v, x', a', -, k3⟩ := k1 u hR
      obtain ⟨y0, y1, y2, rfl⟩ := q_any v
      have ee : lr_cm b n S q = .inl u := by simp only [lr_cm, if_pos c, hR]
      rw [ee]
      refine ⟨fun u' h => ?_, fun y h => (by cases h)⟩
      cases h
      exact ⟨_, x', a', lm_trI (lr_op_t (by omega) _ _), step y0 x' a' u (by omega) k3⟩
    | .inr x =>
      obtain ⟨x1, x2, x3, -, -, x6⟩ := hA'.2 x hR
      have ee : lr_cm b n S q = .inr (x.1, q.2.1 ++ x.2.1 ++ [-(tp_l b n q.1)], fun e => lr_op (tp_l b n q.1) (q.2.2 e) (x.2.2 e)) := by simp only [lr_cm, if_pos c, hR]
      rw [ee]
      refine ⟨fun u' h => (by cases h), fun y h => ?_⟩
      cases h
      exact step _ _ _ _ (lm_num x6 he) (k2 x hR)
  · rw [if_neg c] at ec
    have ef := lm_fails (N := N) (x := iI (dp : Int)) (a := tp_s b n q.1)
    have ee : lr_cm b n S q = .inl (tp_s b n q.1) := by simp only [lr_cm, if_neg c]
    rw [ee]
    refine ⟨fun u' h => ?_, fun y h => (by cases h)⟩
    cases h
    refine ⟨iI 0, iI (dp : Int), tp_s b n q.1, Or.inl rfl, ?_⟩
    simp only [cm_B]
    simp (disch := omega) only [qn0, qn1, qn2, qn3, qn4, qn5, qn6, qn7, qn8, qn9, qn10, qn11, qn12, qn13, qn14, qn15, qn16, qn17, qn18, qn24, qn30, qn31, qn32, qn33, qn36, qn38, qn40, qn41, qn42, qn43, qn45, qn47, qn48, qn49, qn50, qn51, qn52, qn53, qn57, qn58, qn59, qn60, qn61, qn62, qn63, qn91, qn93, qn97, qn99, qn100, qn103, qn104, qn112, qn113, qn115, qn116, qn118, qn119, qn121, qn124, qn173, qn177, qn240, qn255, qn295, qn352, qn353, qn533, qn999, qn1000, qn1023, qn6561, qn10000, qn20787, qn1000000, qn252645135, qn858993459, qn1000000000, qn1431655765, q_s1, q_s2, q_s3, q_s4, q_s5, iI_add, iI_sub, iI_mul, iI_neg, q_lt, q_le, q_eq, qz0, qz1, qz2, qz3, if_pos, if_neg, reduceIte, lm_11, e1, ec, ef]
theorem m_cm1 (w : tp_w b n) (K : md_K r o b n N) (he : lm_e e N) {G : Nat → Int32 → Int32 → gs_M → Option (Int32 × gs_M)} {dp H : Nat} (hS : lr_mg b n N e dp lm_any (fun Z => G 2 (iI 0) (iI 0) Z) S) (hg : lr_gd n H lr_num S) : lr_mq b n N e dp (fun v Z => f_X12_compares G Z (iI 1) v) (lr_cm b n S) := by
  intro q h1 hq
  have h := m_cmB w K he hS hg q h1 hq
  have e1 : f_X12_compares G (lm_m N (iI (dp : Int)) q.1 (-1)) (iI 1) (iI (q.2.2 e)) = cm_B G (iI (q.2.2 e)) (lm_m N (iI (dp : Int)) q.1 (-1)) := by
    rw [lq_eq, if_neg (by decide), q_s2]
  simp only [e1]
  exact h
theorem m_cm0 (w : tp_w b n) (K : md_K r o b n N) (he : lm_e e N) {G : Nat → Int32 → Int32 → gs_M → Option (Int32 × gs_M)} {dp H : Nat} (hS : lr_mg b n N e dp lm_any (fun Z => G 2 (iI 0) (iI 0) Z) S) (hg : lr_gd n H lr_num S) : lr_mg b n N e dp lm_tr (fun Z => f_X12_compares G Z (iI 0) (iI 0)) (lr_sc b n S) := by
  intro a ha
  have w1 := w.1
  obtain ⟨k1, k2⟩ := hS a ha
  have hg' := hg a ha
  unfold lr_sc
  match hR : S a with
  | .inl u =>
    obtain ⟨v, x', a', -, k3⟩ := k1 u hR
    have k3' : G 2 0 0 (lm_m N (iI (dp : Int)) a (-1)) = some (v, lm_m N x' a' (u : Nat)) := k3
    have hu := hg'.1 u hR
    refine ⟨fun u' h => ?_, fun y h => (by cases h)⟩
    cases h
    refine ⟨iI 0, x', a', Or.inl rfl, ?_⟩
    have hne : ¬ (iI ((u : Nat) : Int) = (-1 : Int32)) := by
      rw [qn1, iI_neg, q_eq (by omega)]
      omega
    simp only [lq_eq]
    rw [if_pos (by rfl), k3', q_s2, q_s2]
    unfold cm_B
    rw [lm_11, if_neg hne]
    rfl
  | .inr q =>
    have k3 : G 2 0 0 (lm_m N (iI (dp : Int)) a (-1)) = some (iI (q.2.2 e), lm_m N (iI (dp : Int)) q.1 (-1)) := k2 q hR
    obtain ⟨q1, q2, q3, -, -, q6⟩ := hg'.2 q hR
    have h := m_cmB w K he hS hg q q2 (lm_num q6 he)
    have e1 : f_X12_compares G (lm_m N (iI (dp : Int)) a (-1)) (iI 0) (iI 0) = cm_B G (iI (q.2.2 e)) (lm_m N (iI (dp : Int)) q.1 (-1)) := by
      rw [lq_eq, if_pos (by rfl), k3, q_s2, q_s2]
    simp only [e1]
    exact h
theorem lr_unit_sc {I : Option ((Nat → lr_R) × (Nat → lr_R))} {a : Nat} (c : tp_l b n a ≠ 33) (c2 : tp_l b n a ≠ 40) : lr_unit b n S I a = lr_sc b n S a := by
  unfold lr_unit lr_sc
  rw [if_neg c, if_neg c2]
  cases S a <;> rfl
set_option maxHeartbeats 20000000 in
theorem m_unit (w : tp_w b n) (K : md_K r o b n N) {G : Nat → Int32 → Int32 → gs_M → Option (Int32 × gs_M)} {dp H : Nat} (hC : lr_mg b n N e dp lm_tr (fun Z => G 3 (iI 0) (iI 0) Z) (lr_sc b n S)) (hSs : ∀ a, a ≤ n → S (tp_s b n a) = S a) (ht : ∀ a, a ≤ n → ∀ q, lr_sc b n S a = .inr q → lr_tru q.2.2) {I : Option ((Nat → lr_R) × (Nat → lr_R))} (hI : (dp = 6 ∧ I = none) ∨ (dp < 6 ∧ ∃ J, I = some J ∧ lr_mg b n N e (dp + 1) lm_tr (fun Z => G 4 (iI 0) (iI 0) Z) J.1 ∧ lr_mg b n N e (dp + 1) lm_tr (fun Z => G 6 (iI 0) (iI 0) Z) J.2 ∧ lr_gd n H lr_tru J.1 ∧ lr_gd n H lr_tru J.2)) : lr_mg b n N e dp lm_tr (fun Z => f_X12_unit G Z) (lr_unit b n S I) := by
  intro a ha
  have w1 := w.1
  have hs := tp_s_b (b := b) ha
  have hl := tp_l_b (a := a) w
  have e1 := lm_look (x := iI (dp : Int)) (t := -1) w K ha
  have ed : iI ((dp : Int) + 1) - iI 1 = iI (dp : Int) := by
    rw [iI_sub]
    congr 1
    omega
  by_cases c : tp_l b n a = 33
  · rw [c] at e1
    rcases hI with ⟨h6, rfl⟩ | ⟨h6, J, rfl, hJ1, hJ2, hg1, hg2⟩
    · have ee : lr_unit b n S none a = .inl (tp_s b n a) := by
        unfold lr_unit
        rw [if_pos c]
      rw [ee]
      refine ⟨fun u h => ?_, fun q h => (by cases h)⟩
      cases h
      subst h6
      have e1' : f_X12_look (lm_m N (iI 6) a (-1)) = some (iI 33, lm_m N (iI 6) (tp_s b n a) (-1)) := e1
      have e2 := lm_go6 (N := N) (a := tp_s b n a)
      refine ⟨iI 0, iI 6, tp_s b n a, Or.inl rfl, ?_⟩
      show f_X12_unit G (lm_m N (iI 6) a (-1)) = _
      unfold f_X12_unit
      simp (disch := omega) only [qn0, qn1, qn2, qn3, qn4, qn5, qn6, qn7, qn8, qn9, qn10, qn11, qn12, qn13, qn14, qn15, qn16, qn17, qn18, qn24, qn30, qn31, qn32, qn33, qn36, qn38, qn40, qn41, qn42, qn43, qn45, qn47, qn48, qn49, qn50, qn51, qn52, qn53, qn57, qn58, qn59, qn60, qn61, qn62, qn63, qn91, qn93, qn97, qn99, qn100, qn103, qn104, qn112, qn113, qn115, qn116, qn118, qn119, qn121, qn124, qn173, qn177, qn240, qn255, qn295, qn352, qn353, qn533, qn999, qn1000, qn1023, qn6561, qn10000, qn20787, qn1000000, qn252645135, qn858993459, qn1000000000, qn1431655765, q_s1, q_s2, q_s3, q_s4, q_s5, iI_add, iI_sub, iI_mul, iI_neg, q_lt, q_le, q_eq, qz0, qz1, qz2, qz3, if_pos, if_neg, reduceIte, e1', e2]
    · have e2 := lm_go (N := N) (a := tp_s b n a) h6
      obtain ⟨k1, k2⟩ := hJ1 (tp_s b n a + 1) (by omega)
      match hR : J.1 (tp_s b n a + 1) with
      | .inl u =>
        obtain ⟨v, x', a', hv, k3⟩ := k1 u hR
        have k3' : G 4 (iI 0) (iI 0) (lm_m N (iI ((dp : Int) + 1)) (tp_s b n a + 1) (-1)) = some (v, lm_m N x' a' (u : Nat)) := k3
        have ee : lr_unit b n S (some J) a = .inl u := by
          unfold lr_unit
          rw [if_pos c]
          simp only [hR]
        rw [ee]
        refine ⟨fun u h => ?_, fun q h => (by cases h)⟩
        cases h
        rcases hv with rfl | rfl
        · refine ⟨iI 1, x' - iI 1, a', Or.inr rfl, ?_⟩
          simp only [f_X12_unit]
          simp (disch := omega) only [qn0, qn1, qn2, qn3, qn4, qn5, qn6, qn7, qn8, qn9, qn10, qn11, qn12, qn13, qn14, qn15, qn16, qn17, qn18, qn24, qn30, qn31, qn32, qn33, qn36, qn38, qn40, qn41, qn42, qn43, qn45, qn47, qn48, qn49, qn50, qn51, qn52, qn53, qn57, qn58, qn59, qn60, qn61, qn62, qn63, qn91, qn93, qn97, qn99, qn100, qn103, qn104, qn112, qn113, qn115, qn116, qn118, qn119, qn121, qn124, qn173, qn177, qn240, qn255, qn295, qn352, qn353, qn533, qn999, qn1000, qn1023, qn6561, qn10000, qn20787, qn1000000, qn252645135, qn858993459, qn1000000000, qn1431655765, q_s1, q_s2, q_s3, q_s4, q_s5, iI_add, iI_sub, iI_mul, iI_neg, q_lt, q_le, q_eq, qz0, qz1, qz2, qz3, if_pos, if_neg, reduceIte, e1, e2, k3', lm_12, lm_u12]
        · refine ⟨iI 0, x' - iI 1, a', Or.inl rfl, ?_⟩
          simp only [f_X12_unit]
          simp (disch := omega) only [qn0, qn1, qn2, qn3, qn4, qn5, qn6, qn7, qn8, qn9, qn10, qn11, qn12, qn13, qn14, qn15, qn16, qn17, qn18, qn24, qn30, qn31, qn32, qn33, qn36, qn38, qn40, qn41, qn42, qn43, qn45, qn47, qn48, qn49, qn50, qn51, qn52, qn53, qn57, qn58, qn59, qn60, qn61, qn62, qn63, qn91, qn93, qn97, qn99, qn100, qn103, qn104, qn112, qn113, qn115, qn116, qn118, qn119, qn121, qn124, qn173, qn177, qn240, qn255, qn295, qn352, qn353, qn533, qn999, qn1000, qn1023, qn6561, qn10000, qn20787, qn1000000, qn252645135, qn858993459, qn1000000000, qn1431655765, q_s1, q_s2, q_s3, q_s4, q_s5, iI_add, iI_sub, iI_mul, iI_neg, q_lt, q_le, q_eq, qz0, qz1, qz2, qz3, if_pos, if_neg, reduceIte, e1, e2, k3', lm_12, lm_u12]
      | .inr q =>
        have k3' : G 4 (iI 0) (iI 0) (lm_m N (iI ((dp : Int) + 1)) (tp_s b n a + 1) (-1)) = some (iI (q.2.2 e), lm_m N (iI ((dp : Int) + 1)) q.1 (-1)) := k2 q hR
        have htq := ((hg1 (tp_s b n a + 1) (by omega)).2 q hR).2.2.2.2.2 e
        have ee : lr_unit b n S (some J) a = .inr (q.1, q.2.1 ++ [-33], fun e => 1 - q.2.2 e) := by
          unfold lr_unit
          rw [if_pos c]
          simp only [hR]
        rw [ee]
        refine ⟨fun u h => (by cases h), fun y h => ?_⟩
        cases h
        show f_X12_unit G (lm_m N (iI (dp : Int)) a (-1)) = some (iI (1 - q.2.2 e), lm_m N (iI (dp : Int)) q.1 (-1))
        unfold f_X12_unit
        rcases htq with htq | htq
        · rw [htq] at k3' ⊢
          simp (disch := omega) only [q_s1, q_s2, qn0, qn1, qn33, q_eq, qz0, qz1, if_pos, if_neg, reduceIte, e1, e2, k3', lm_12, lm_u12, ed]
          rfl
        · rw [htq] at k3' ⊢
          simp (disch := omega) only [q_s1, q_s2, qn0, qn1, qn33, q_eq, qz0, qz1, if_pos, if_neg, reduceIte, e1, e2, k3', lm_12, lm_u12, ed]
          rfl
  · by_cases c2 : tp_l b n a = 40
    · rw [c2] at e1
      rcases hI with ⟨h6, rfl⟩ | ⟨h6, J, rfl, hJ1, hJ2, hg1, hg2⟩
      · have ee : lr_unit b n S none a = .inl (tp_s b n a) := by
          unfold lr_unit
          rw [if_neg c, if_pos c2]
        rw [ee]
        refine ⟨fun u h => ?_, fun q h => (by cases h)⟩
        cases h
        subst h6
        have e1' : f_X12_look (lm_m N (iI 6) a (-1)) = some (iI 40, lm_m N (iI 6) (tp_s b n a) (-1)) := e1
        have e2 := lm_go6 (N := N) (a := tp_s b n a)
        refine ⟨iI 0, iI 6, tp_s b n a, Or.inl rfl, ?_⟩
        show f_X12_unit G (lm_m N (iI 6) a (-1)) = _
        unfold f_X12_unit
        simp (disch := omega) only [qn0, qn1, qn2, qn3, qn4, qn5, qn6, qn7, qn8, qn9, qn10, qn11, qn12, qn13, qn14, qn15, qn16, qn17, qn18, qn24, qn30, qn31, qn32, qn33, qn36, qn38, qn40, qn41, qn42, qn43, qn45, qn47, qn48, qn49, qn50, qn51, qn52, qn53, qn57, qn58, qn59, qn60, qn61, qn62, qn63, qn91, qn93, qn97, qn99, qn100, qn103, qn104, qn112, qn113, qn115, qn116, qn118, qn119, qn121, qn124, qn173, qn177, qn240, qn255, qn295, qn352, qn353, qn533, qn999, qn1000, qn1023, qn6561, qn10000, qn20787, qn1000000, qn252645135, qn858993459, qn1000000000, qn1431655765, q_s1, q_s2, q_s3, q_s4, q_s5, iI_add, iI_sub, iI_mul, iI_neg, q_lt, q_le, q_eq, qz0, qz1, qz2, qz3, if_pos, if_neg, reduceIte, e1', e2]
      · have ee : lr_unit b n S (some J) a = lr_cs b n 41 (J.2 (tp_s b n a + 1)) := by
          unfold lr_unit
          rw [if_neg c, if_pos c2]
        rw [ee]
        have e2 := lm_go (N := N) (a := tp_s b n a) h6
        obtain ⟨k1, k2⟩ := hJ2 (tp_s b n a + 1) (by omega)
        have hg := hg2 (tp_s b n a + 1) (by omega)
        match hR : J.2 (tp_s b n a + 1) with
        | .inl u =>
          obtain ⟨v, x', a', -, k3⟩ := k1 u hR
          have k3' : G 6 (iI 0) (iI 0) (lm_m N (iI ((dp : Int) + 1)) (tp_s b n a + 1) (-1)) = some (v, lm_m N x' a' (u : Nat)) := k3
          have hu := hg.1 u hR
          have e3 := lm_takes1 (N := N) (x := x') (a := a') (t := (u : Int)) (by omega) (iI 41)
          refine ⟨fun u' h => ?_, fun q h => (by cases h)⟩
          cases h
          refine ⟨iI 0, x', a', Or.inl rfl, ?_⟩
          simp only [f_X12_unit]
          simp (disch := omega) only [qn0, qn1, qn2, qn3, qn4, qn5, qn6, qn7, qn8, qn9, qn10, qn11, qn12, qn13, qn14, qn15, qn16, qn17, qn18, qn24, qn30, qn31, qn32, qn33, qn36, qn38, qn40, qn41, qn42, qn43, qn45, qn47, qn48, qn49, qn50, qn51, qn52, qn53, qn57, qn58, qn59, qn60, qn61, qn62, qn63, qn91, qn93, qn97, qn99, qn100, qn103, qn104, qn112, qn113, qn115, qn116, qn118, qn119, qn121, qn124, qn173, qn177, qn240, qn255, qn295, qn352, qn353, qn533, qn999, qn1000, qn1023, qn6561, qn10000, qn20787, qn1000000, qn252645135, qn858993459, qn1000000000, qn1431655765, q_s1, q_s2, q_s3, q_s4, q_s5, iI_add, iI_sub, iI_mul, iI_neg, q_lt, q_le, q_eq, qz0, qz1, qz2, qz3, if_pos, if_neg, reduceIte, e1, e2, k3', e3]
        | .inr q =>
          have k3' : G 6 (iI 0) (iI 0) (lm_m N (iI ((dp : Int) + 1)) (tp_s b n a + 1) (-1)) = some (iI (q.2.2 e), lm_m N (iI ((dp : Int) + 1)) q.1 (-1)) := k2 q hR
          obtain ⟨q1, q2, q3, -, -, q6⟩ := hg.2 q hR
          have e4 := lm_takes (x := iI ((dp : Int) + 1)) w K q2 (c := 41) (by decide)
          by_cases c5 : tp_l b n q.1 = 41
          · have ee : lr_cs b n 41 (.inr q) = .inr (tp_s b n q.1 + 1, q.2) := if_pos c5
            rw [if_pos c5] at e4
            rw [ee]
            refine ⟨fun u h => (by cases h), fun q' h => ?_⟩
            cases h
            show f_X12_unit G (lm_m N (iI (dp : Int)) a (-1)) = some (iI (q.2.2 e), lm_m N (iI (dp : Int)) (tp_s b n q.1 + 1) (-1))
            unfold f_X12_unit
            rcases q6 e with htq | htq
            · rw [htq] at k3' ⊢
              simp (disch := omega) only [q_s1, q_s2, qn0, qn1, qn33, qn40, qn41, q_eq, qz0, qz1, if_pos, if_neg, reduceIte, e1, e2, k3', e4, lm_12, lm_u12, ed]
            · rw [htq] at k3' ⊢
              simp (disch := omega) only [q_s1, q_s2, qn0, qn1, qn33, qn40, qn41, q_eq, qz0, qz1, if_pos, if_neg, reduceIte, e1, e2, k3', e4, lm_12, lm_u12, ed]
          · have ee : lr_cs b n 41 (.inr q) = .inl (tp_s b n q.1) := if_neg c5
            rw [if_neg c5] at e4
            rw [ee]
            refine ⟨fun u h => ?_, fun q h => (by cases h)⟩
            cases h
            refine ⟨iI 0, iI ((dp : Int) + 1), tp_s b n q.1, Or.inl rfl, ?_⟩
            simp only [f_X12_unit]
            simp (disch := omega) only [qn0, qn1, qn2, qn3, qn4, qn5, qn6, qn7, qn8, qn9, qn10, qn11, qn12, qn13, qn14, qn15, qn16, qn17, qn18, qn24, qn30, qn31, qn32, qn33, qn36, qn38, qn40, qn41, qn42, qn43, qn45, qn47, qn48, qn49, qn50, qn51, qn52, qn53, qn57, qn58, qn59, qn60, qn61, qn62, qn63, qn91, qn93, qn97, qn99, qn100, qn103, qn104, qn112, qn113, qn115, qn116, qn118, qn119, qn121, qn124, qn173, qn177, qn240, qn255, qn295, qn352, qn353, qn533, qn999, qn1000, qn1023, qn6561, qn10000, qn20787, qn1000000, qn252645135, qn858993459, qn1000000000, qn1431655765, q_s1, q_s2, q_s3, q_s4, q_s5, iI_add, iI_sub, iI_mul, iI_neg, q_lt, q_le, q_eq, qz0, qz1, qz2, qz3, if_pos, if_neg, reduceIte, e1, e2, k3', e4]
    · rw [lr_unit_sc c c2]
      obtain ⟨k1, k2⟩ := hC (tp_s b n a) hs.2
      have es : lr_sc b n S (tp_s b n a) = lr_sc b n S a := by
        unfold lr_sc
        rw [hSs a ha]
      rw [es] at k1 k2
      refine ⟨fun u h => ?_, fun q h => ?_⟩
      · obtain ⟨v, x', a', hv, k3⟩ := k1 u h
        have k3' : G 3 (iI 0) (iI 0) (lm_m N (iI (dp : Int)) (tp_s b n a) (-1)) = some (v, lm_m N x' a' (u : Nat)) := k3
        refine ⟨v, x', a', hv, ?_⟩
        simp only [f_X12_unit]
        rcases hv with rfl | rfl
        · simp (disch := omega) only [qn0, qn1, qn2, qn3, qn4, qn5, qn6, qn7, qn8, qn9, qn10, qn11, qn12, qn13, qn14, qn15, qn16, qn17, qn18, qn24, qn30, qn31, qn32, qn33, qn36, qn38, qn40, qn41, qn42, qn43, qn45, qn47, qn48, qn49, qn50, qn51, qn52, qn53, qn57, qn58, qn59, qn60, qn61, qn62, qn63, qn91, qn93, qn97, qn99, qn100, qn103, qn104, qn112, qn113, qn115, qn116, qn118, qn119, qn121, qn124, qn173, qn177, qn240, qn255, qn295, qn352, qn353, qn533, qn999, qn1000, qn1023, qn6561, qn10000, qn20787, qn1000000, qn252645135, qn858993459, qn1000000000, qn1431655765, q_s1, q_s2, q_s3, q_s4, q_s5, iI_add, iI_sub, iI_mul, iI_neg, q_lt, q_le, q_eq, qz0, qz1, qz2, qz3, if_pos, if_neg, reduceIte, e1, k3']
        · simp (disch := omega) only [qn0, qn1, qn2, qn3, qn4, qn5, qn6, qn7, qn8, qn9, qn10, qn11, qn12, qn13, qn14, qn15, qn16, qn17, qn18, qn24, qn30, qn31, qn32, qn33, qn36, qn38, qn40, qn41, qn42, qn43, qn45, qn47, qn48, qn49, qn50, qn51, qn52, qn53, qn57, qn58, qn59, qn60, qn61, qn62, qn63, qn91, qn93, qn97, qn99, qn100, qn103, qn104, qn112, qn113, qn115, qn116, qn118, qn119, qn121, qn124, qn173, qn177, qn240, qn255, qn295, qn352, qn353, qn533, qn999, qn1000, qn1023, qn6561, qn10000, qn20787, qn1000000, qn252645135, qn858993459, qn1000000000, qn1431655765, q_s1, q_s2, q_s3, q_s4, q_s5, iI_add, iI_sub, iI_mul, iI_neg, q_lt, q_le, q_eq, qz0, qz1, qz2, qz3, if_pos, if_neg, reduceIte, e1, k3']
      · have k3' : G 3 (iI 0) (iI 0) (lm_m N (iI (dp : Int)) (tp_s b n a) (-1)) = some (iI (q.2.2 e), lm_m N (iI (dp : Int)) q.1 (-1)) := k2 q h
        have htq := ht a ha q h e
        show f_X12_unit G (lm_m N (iI (dp : Int)) a (-1)) = some (iI (q.2.2 e), lm_m N (iI (dp : Int)) q.1 (-1))
        unfold f_X12_unit
        rcases htq with htq | htq
        · rw [htq] at k3' ⊢
          simp (disch := omega) only [qn0, qn1, qn2, qn3, qn4, qn5, qn6, qn7, qn8, qn9, qn10, qn11, qn12, qn13, qn14, qn15, qn16, qn17, qn18, qn24, qn30, qn31, qn32, qn33, qn36, qn38, qn40, qn41, qn42, qn43, qn45, qn47, qn48, qn49, qn50, qn51, qn52, qn53, qn57, qn58, qn59, qn60, qn61, qn62, qn63, qn91, qn93, qn97, qn99, qn100, qn103, qn104, qn112, qn113, qn115, qn116, qn118, qn119, qn121, qn124, qn173, qn177, qn240, qn255, qn295, qn352, qn353, qn533, qn999, qn1000, qn1023, qn6561, qn10000, qn20787, qn1000000, qn252645135, qn858993459, qn1000000000, qn1431655765, q_s1, q_s2, q_s3, q_s4, q_s5, iI_add, iI_sub, iI_mul, iI_neg, q_lt, q_le, q_eq, qz0, qz1, qz2, qz3, if_pos, if_neg, reduceIte, e1, k3']
        · rw [htq] at k3' ⊢
          simp (disch := omega) only [qn0, qn1, qn2, qn3, qn4, qn5, qn6, qn7, qn8, qn9, qn10, qn11, qn12, qn13, qn14, qn15, qn16, qn17, qn18, qn24, qn30, qn31, qn32, qn33, qn36, qn38, qn40, qn41, qn42, qn43, qn45, qn47, qn48, qn49, qn50, qn51, qn52, qn53, qn57, qn58, qn59, qn60, qn61, qn62, qn63, qn91, qn93, qn97, qn99, qn100, qn103, qn104, qn112, qn113, qn115, qn116, qn118, qn119, qn121, qn124, qn173, qn177, qn240, qn255, qn295, qn352, qn353, qn533, qn999, qn1000, qn1023, qn6561, qn10000, qn20787, qn1000000, qn252645135, qn858993459, qn1000000000, qn1431655765, q_s1, q_s2, q_s3, q_s4, q_s5, iI_add, iI_sub, iI_mul, iI_neg, q_lt, q_le, q_eq, qz0, qz1, qz2, qz3, if_pos, if_neg, reduceIte, e1, k3']
end Law21
