/-! a TOWN read by the class: loop, couples, end -/
def tw_nx (b : Nat → Int) (n d : Nat) (x : tw_T) : Nat ⊕ tw_T := if tp_l b n x.1 = 59 then tw_go b n d (tp_s b n x.1 + 1, x.2) else if tp_l b n x.1 = -1 then .inr (tp_s b n x.1, x.2) else .inl (tp_s b n x.1)
theorem tw_go_s (b : Nat → Int) (n d : Nat) (q : tw_T) : tw_go b n (d + 1) q = match tw_cl b n q with | .inl e => .inl e | .inr x => tw_nx b n d x := rfl
def tw_f (b : Nat → Int) (n : Nat) : Int := match tw_r b n with | .inl e => (e : Int) | .inr _ => -1
section Town2
variable {b : Nat → Int} {n a q0 w0 : Nat} {t : Int} {M N : gs_M}
theorem tw_b_a {x : tw_T} (B : tw_b n x) {a : Nat} (ha : a ≤ n) : tw_b n (a, x.2) := ⟨ha, B.2⟩
theorem tw_C_a {x : tw_T} (C : tw_C M N x) {a : Nat} : tw_C M N (a, x.2) := C
theorem c_rl (w : tp_w b n) (K : tp_K b n M) : ∀ (d i f : Nat) (x : tw_T) (N : gs_M), tw_b n x → tw_C M N x → n < x.1 + d → i + d ≤ 240 → d < f → ∃ N' a', tw_X M N' ∧
    (∀ e, tw_nx b n d x = .inl e → e ≤ n ∧ ((∃ j, l_X9_read_35 f (iI 1) (iI i) (tp_m N x.1 (-1)) = some (iI 0, j, tp_m N' a' e)) ∨ ((∃ j, l_X9_read_35 f (iI 1) (iI i) (tp_m N x.1 (-1)) = some (iI 1, j, tp_m N' e (-1))) ∧ tp_s b n e = e ∧ tp_l b n e ≠ -1))) ∧
    (∀ y, tw_nx b n d x = .inr y → (∃ j, l_X9_read_35 f (iI 1) (iI i) (tp_m N x.1 (-1)) = some (iI 1, j, tp_m N' y.1 (-1))) ∧ tw_C M N' y ∧ tw_b n y ∧ tp_s b n y.1 = y.1 ∧ tp_l b n y.1 = -1) := by
  have w1 := w.1
  intro d
  induction d with
  | zero =>
    intro i f x N B C h1
    have := B.1
    omega
  | succ d ih =>
    intro i f x N B C h1 h2 h3
    obtain ⟨f, rfl⟩ : ∃ k, f = k + 1 + 1 := ⟨f - 2, by omega⟩
    have KN := C.2.2.2.2.K K
    have hs := tp_s_b (b := b) B.1
    have hl := tp_l_b (a := x.1) w
    have e1 := c_look (t := -1) w KN B.1
    by_cases c : tp_l b n x.1 = 59
    · have e2 := c_step1 (t := -1) w KN (a := tp_s b n x.1) (by omega)
      have B1 := tw_b_a B (a := tp_s b n x.1 + 1) (by omega)
      have hcb := tw_cl_b w B1
      obtain ⟨N1, a1, hX, k1, k2⟩ := c_clause w K B1 (tw_C_a C)
      have en : tw_nx b n (d + 1) x = tw_go b n (d + 1) (tp_s b n x.1 + 1, x.2) := if_pos c
      rw [en, tw_go_s]
      match hR : tw_cl b n (tp_s b n x.1 + 1, x.2) with
      | .inl u =>
        have e3 := k1 u hR
        simp only at e3
        have hu := hcb.1 u hR
        refine ⟨N1, a1, hX, fun e h => ?_, fun y h => (by cases h)⟩
        cases h
        refine ⟨hu, Or.inl ⟨iI ((i : Int) + 1), ?_⟩⟩
        have es : l_X9_read_35 (f + 1) (iI 0) (iI ((i : Int) + 1)) (tp_m N1 a1 u) = some (iI 0, iI ((i : Int) + 1), tp_m N1 a1 u) := by
          simp only [l_X9_read_35]
          by_cases c3 : 240 ≤ (i : Int) + 1
          · simp (disch := omega) only [qn0, qn1, qn2, qn3, qn4, qn5, qn6, qn7, qn8, qn9, qn10, qn11, qn12, qn13, qn14, qn15, qn16, qn17, qn18, qn24, qn30, qn31, qn32, qn33, qn36, qn38, qn40, qn41, qn42, qn43, qn45, qn47, qn48, qn49, qn50, qn51, qn52, qn53, qn57, qn58, qn59, qn60, qn61, qn62, qn63, qn91, qn93, qn97, qn99, qn100, qn103, qn104, qn112, qn113, qn115, qn116, qn118, qn119, qn121, qn124, qn173, qn177, qn240, qn255, qn295, qn352, qn353, qn533, qn999, qn1000, qn1023, qn6561, qn10000, qn20787, qn1000000, qn252645135, qn858993459, qn1000000000, qn1431655765, q_s1, q_s2, q_s3, q_s4, q_s5, iI_add, iI_sub, iI_mul, iI_neg, q_lt, q_le, q_eq, qz0, qz1, qz2, qz3, if_pos, if_neg, reduceIte]
          · simp (disch := omega) only [qn0, qn1, qn2, qn3, qn4, qn5, qn6, qn7, qn8, qn9, qn10, qn11, qn12, qn13, qn14, qn15, qn16, qn17, qn18, qn24, qn30, qn31, qn32, qn33, qn36, qn38, qn40, qn41, qn42, qn43, qn45, qn47, qn48, qn49, qn50, qn51, qn52, qn53, qn57, qn58, qn59, qn60, qn61, qn62, qn63, qn91, qn93, qn97, qn99, qn100, qn103, qn104, qn112, qn113, qn115, qn116, qn118, qn119, qn121, qn124, qn173, qn177, qn240, qn255, qn295, qn352, qn353, qn533, qn999, qn1000, qn1023, qn6561, qn10000, qn20787, qn1000000, qn252645135, qn858993459, qn1000000000, qn1431655765, q_s1, q_s2, q_s3, q_s4, q_s5, iI_add, iI_sub, iI_mul, iI_neg, q_lt, q_le, q_eq, qz0, qz1, qz2, qz3, if_pos, if_neg, reduceIte]
        rw [l_X9_read_35]
        simp (disch := omega) only [qn0, qn1, qn2, qn3, qn4, qn5, qn6, qn7, qn8, qn9, qn10, qn11, qn12, qn13, qn14, qn15, qn16, qn17, qn18, qn24, qn30, qn31, qn32, qn33, qn36, qn38, qn40, qn41, qn42, qn43, qn45, qn47, qn48, qn49, qn50, qn51, qn52, qn53, qn57, qn58, qn59, qn60, qn61, qn62, qn63, qn91, qn93, qn97, qn99, qn100, qn103, qn104, qn112, qn113, qn115, qn116, qn118, qn119, qn121, qn124, qn173, qn177, qn240, qn255, qn295, qn352, qn353, qn533, qn999, qn1000, qn1023, qn6561, qn10000, qn20787, qn1000000, qn252645135, qn858993459, qn1000000000, qn1431655765, q_s1, q_s2, q_s3, q_s4, q_s5, iI_add, iI_sub, iI_mul, iI_neg, q_lt, q_le, q_eq, qz0, qz1, qz2, qz3, if_pos, if_neg, reduceIte, e1, c, e2, e3, es]
      | .inr x' =>
        obtain ⟨e3, C1⟩ := k2 x' hR
        simp only at e3
        obtain ⟨hx1, hx2⟩ := hcb.2 x' hR
        simp only at hx1
        obtain ⟨N2, a2, j1, j2, j3⟩ := ih (i + 1) (f + 1) x' N1 hx2 C1 (by omega) (by omega) (by omega)
        have es : l_X9_read_35 (f + 1 + 1) (iI 1) (iI i) (tp_m N x.1 (-1)) = l_X9_read_35 (f + 1) (iI 1) (iI ((i + 1 : Nat) : Int)) (tp_m N1 x'.1 (-1)) := by
          rw [l_X9_read_35]
          simp (disch := omega) only [qn0, qn1, qn2, qn3, qn4, qn5, qn6, qn7, qn8, qn9, qn10, qn11, qn12, qn13, qn14, qn15, qn16, qn17, qn18, qn24, qn30, qn31, qn32, qn33, qn36, qn38, qn40, qn41, qn42, qn43, qn45, qn47, qn48, qn49, qn50, qn51, qn52, qn53, qn57, qn58, qn59, qn60, qn61, qn62, qn63, qn91, qn93, qn97, qn99, qn100, qn103, qn104, qn112, qn113, qn115, qn116, qn118, qn119, qn121, qn124, qn173, qn177, qn240, qn255, qn295, qn352, qn353, qn533, qn999, qn1000, qn1023, qn6561, qn10000, qn20787, qn1000000, qn252645135, qn858993459, qn1000000000, qn1431655765, q_s1, q_s2, q_s3, q_s4, q_s5, iI_add, iI_sub, iI_mul, iI_neg, q_lt, q_le, q_eq, qz0, qz1, qz2, qz3, if_pos, if_neg, reduceIte, e1, c, e2, e3]
          rfl
        rw [es]
        exact ⟨N2, a2, j1, j2, j3⟩
    · have es : l_X9_read_35 (f + 1 + 1) (iI 1) (iI i) (tp_m N x.1 (-1)) = some (iI 1, iI i, tp_m N (tp_s b n x.1) (-1)) := by
        rw [l_X9_read_35]
        simp (disch := omega) only [qn0, qn1, qn2, qn3, qn4, qn5, qn6, qn7, qn8, qn9, qn10, qn11, qn12, qn13, qn14, qn15, qn16, qn17, qn18, qn24, qn30, qn31, qn32, qn33, qn36, qn38, qn40, qn41, qn42, qn43, qn45, qn47, qn48, qn49, qn50, qn51, qn52, qn53, qn57, qn58, qn59, qn60, qn61, qn62, qn63, qn91, qn93, qn97, qn99, qn100, qn103, qn104, qn112, qn113, qn115, qn116, qn118, qn119, qn121, qn124, qn173, qn177, qn240, qn255, qn295, qn352, qn353, qn533, qn999, qn1000, qn1023, qn6561, qn10000, qn20787, qn1000000, qn252645135, qn858993459, qn1000000000, qn1431655765, q_s1, q_s2, q_s3, q_s4, q_s5, iI_add, iI_sub, iI_mul, iI_neg, q_lt, q_le, q_eq, qz0, qz1, qz2, qz3, if_pos, if_neg, reduceIte, e1]
      refine ⟨N, 0, C.2.2.2.2, fun e h => ?_, fun y h => ?_⟩
      · by_cases c2 : tp_l b n x.1 = -1
        · rw [tw_nx, if_neg c, if_pos c2] at h
          cases h
        · rw [tw_nx, if_neg c, if_neg c2] at h
          cases h
          exact ⟨hs.2, Or.inr ⟨⟨_, es⟩, tp_ss B.1, by rw [tp_ll B.1]; exact c2⟩⟩
      · by_cases c2 : tp_l b n x.1 = -1
        · rw [tw_nx, if_neg c, if_pos c2] at h
          cases h
          exact ⟨⟨_, es⟩, tw_C_a C, tw_b_a B hs.2, tp_ss B.1, by rw [tp_ll B.1]; exact c2⟩
        · rw [tw_nx, if_neg c, if_neg c2] at h
          cases h
theorem tw_cp_8 {p i d : Nat} {D : Nat → Int} (h : D (5 * i + 4) = 8) : tw_cp p D (d + 1) i = tw_cp p D d (i + 1) := if_pos h
theorem tw_cp_f {p i d : Nat} {D : Nat → Int} (h : D (5 * i + 4) ≠ 8) (h2 : D (5 * i + 4) = i ∨ (p : Int) ≤ D (5 * i + 4) ∨ D (5 * (D (5 * i + 4)).toNat + 4) ≠ i) : tw_cp p D (d + 1) i = false := by
  show (if _ then _ else _) = _
  rw [if_neg h, if_pos h2]
theorem tw_cp_y {p i d : Nat} {D : Nat → Int} (h : D (5 * i + 4) ≠ 8) (h2 : ¬ (D (5 * i + 4) = i ∨ (p : Int) ≤ D (5 * i + 4) ∨ D (5 * (D (5 * i + 4)).toNat + 4) ≠ i)) : tw_cp p D (d + 1) i = tw_cp p D d (i + 1) := by
  show (if _ then _ else _) = _
  rw [if_neg h, if_neg h2]
theorem c_cpl {p : Nat} {D : Nat → Int} (hp : N 6 2 = iI (p : Nat)) (h8 : ∀ k, k < 5 * p → N 8 k = iI (D k)) (hD : ∀ i, i < p → 0 ≤ D (5 * i + 4) ∧ D (5 * i + 4) ≤ 8) (hp8 : p ≤ 8) : ∀ d i f : Nat, i + d = p → d < f → l_X9_couplesAgree_2 N f (iI i) = some (if tw_cp p D d i = true then iI 1 else iI 0) := by
  intro d
  induction d with
  | zero =>
    intro i f hi hf
    obtain ⟨f, rfl⟩ : ∃ k, f = k + 1 := ⟨f - 1, by omega⟩
    have e : tw_cp p D 0 i = true := rfl
    rw [e, if_pos rfl]
    simp only [l_X9_couplesAgree_2]
    simp (disch := omega) only [qn0, qn1, qn2, qn3, qn4, qn5, qn6, qn7, qn8, qn9, qn10, qn11, qn12, qn13, qn14, qn15, qn16, qn17, qn18, qn24, qn30, qn31, qn32, qn33, qn36, qn38, qn40, qn41, qn42, qn43, qn45, qn47, qn48, qn49, qn50, qn51, qn52, qn53, qn57, qn58, qn59, qn60, qn61, qn62, qn63, qn91, qn93, qn97, qn99, qn100, qn103, qn104, qn112, qn113, qn115, qn116, qn118, qn119, qn121, qn124, qn173, qn177, qn240, qn255, qn295, qn352, qn353, qn533, qn999, qn1000, qn1023, qn6561, qn10000, qn20787, qn1000000, qn252645135, qn858993459, qn1000000000, qn1431655765, q_s1, q_s2, q_s3, q_s4, q_s5, iI_add, iI_sub, iI_mul, iI_neg, q_lt, q_le, q_eq, qz0, qz1, qz2, qz3, if_pos, if_neg, reduceIte, hp]
  | succ d ih =>
    intro i f hi hf
    obtain ⟨f, rfl⟩ : ∃ k, f = k + 1 := ⟨f - 1, by omega⟩
    have h := hD i (by omega)
    have e1 : gs_rd N 8 40 (iI ((i : Int) * 5 + 4)) = some (iI (D (5 * i + 4))) := by
      rw [q_rdn (5 * i + 4) (by omega) (by omega) (by decide), h8 _ (by omega)]
    have e2 := ih (i + 1) f (by omega) (by omega)
    have e2' : l_X9_couplesAgree_2 N f (iI ((i : Int) + 1)) = some (if tw_cp p D d (i + 1) = true then iI 1 else iI 0) := e2
    by_cases c : D (5 * i + 4) = 8
    · rw [tw_cp_8 c]
      rw [c] at e1
      simp only [l_X9_couplesAgree_2]
      simp (disch := omega) only [qn0, qn1, qn2, qn3, qn4, qn5, qn6, qn7, qn8, qn9, qn10, qn11, qn12, qn13, qn14, qn15, qn16, qn17, qn18, qn24, qn30, qn31, qn32, qn33, qn36, qn38, qn40, qn41, qn42, qn43, qn45, qn47, qn48, qn49, qn50, qn51, qn52, qn53, qn57, qn58, qn59, qn60, qn61, qn62, qn63, qn91, qn93, qn97, qn99, qn100, qn103, qn104, qn112, qn113, qn115, qn116, qn118, qn119, qn121, qn124, qn173, qn177, qn240, qn255, qn295, qn352, qn353, qn533, qn999, qn1000, qn1023, qn6561, qn10000, qn20787, qn1000000, qn252645135, qn858993459, qn1000000000, qn1431655765, q_s1, q_s2, q_s3, q_s4, q_s5, iI_add, iI_sub, iI_mul, iI_neg, q_lt, q_le, q_eq, qz0, qz1, qz2, qz3, if_pos, if_neg, reduceIte, hp, e1, e2']
    · by_cases c1 : D (5 * i + 4) = i ∨ (p : Int) ≤ D (5 * i + 4)
      · rw [tw_cp_f c (by omega), if_neg (by decide)]
        simp only [l_X9_couplesAgree_2]
        by_cases c2 : D (5 * i + 4) = i
        · simp (disch := omega) only [qn0, qn1, qn2, qn3, qn4, qn5, qn6, qn7, qn8, qn9, qn10, qn11, qn12, qn13, qn14, qn15, qn16, qn17, qn18, qn24, qn30, qn31, qn32, qn33, qn36, qn38, qn40, qn41, qn42, qn43, qn45, qn47, qn48, qn49, qn50, qn51, qn52, qn53, qn57, qn58, qn59, qn60, qn61, qn62, qn63, qn91, qn93, qn97, qn99, qn100, qn103, qn104, qn112, qn113, qn115, qn116, qn118, qn119, qn121, qn124, qn173, qn177, qn240, qn255, qn295, qn352, qn353, qn533, qn999, qn1000, qn1023, qn6561, qn10000, qn20787, qn1000000, qn252645135, qn858993459, qn1000000000, qn1431655765, q_s1, q_s2, q_s3, q_s4, q_s5, iI_add, iI_sub, iI_mul, iI_neg, q_lt, q_le, q_eq, qz0, qz1, qz2, qz3, if_pos, if_neg, reduceIte, hp, e1]
        · simp (disch := omega) only [qn0, qn1, qn2, qn3, qn4, qn5, qn6, qn7, qn8, qn9, qn10, qn11, qn12, qn13, qn14, qn15, qn16, qn17, qn18, qn24, qn30, qn31, qn32, qn33, qn36, qn38, qn40, qn41, qn42, qn43, qn45, qn47, qn48, qn49, qn50, qn51, qn52, qn53, qn57, qn58, qn59, qn60, qn61, qn62, qn63, qn91, qn93, qn97, qn99, qn100, qn103, qn104, qn112, qn113, qn115, qn116, qn118, qn119, qn121, qn124, qn173, qn177, qn240, qn255, qn295, qn352, qn353, qn533, qn999, qn1000, qn1023, qn6561, qn10000, qn20787, qn1000000, qn252645135, qn858993459, qn1000000000, qn1431655765, q_s1, q_s2, q_s3, q_s4, q_s5, iI_add, iI_sub, iI_mul, iI_neg, q_lt, q_le, q_eq, qz0, qz1, qz2, qz3, if_pos, if_neg, reduceIte, hp, e1]
      · obtain ⟨m, hm⟩ : ∃ m : Nat, D (5 * i + 4) = m := ⟨(D (5 * i + 4)).toNat, by omega⟩
        have hmp : m < p := by omega
        have hm2 := hD m hmp
        have e3 : gs_rd N 8 40 (iI ((m : Int) * 5 + 4)) = some (iI (D (5 * m + 4))) := by
          rw [q_rdn (5 * m + 4) (by omega) (by omega) (by decide), h8 _ (by omega)]
        have hmm : (D (5 * i + 4)).toNat = m := by omega
        by_cases c3 : D (5 * m + 4) = i
        · rw [tw_cp_y c (by rw [hmm]; omega)]
          rw [hm] at e1
          simp only [l_X9_couplesAgree_2]
          simp (disch := omega) only [qn0, qn1, qn2, qn3, qn4, qn5, qn6, qn7, qn8, qn9, qn10, qn11, qn12, qn13, qn14, qn15, qn16, qn17, qn18, qn24, qn30, qn31, qn32, qn33, qn36, qn38, qn40, qn41, qn42, qn43, qn45, qn47, qn48, qn49, qn50, qn51, qn52, qn53, qn57, qn58, qn59, qn60, qn61, qn62, qn63, qn91, qn93, qn97, qn99, qn100, qn103, qn104, qn112, qn113, qn115, qn116, qn118, qn119, qn121, qn124, qn173, qn177, qn240, qn255, qn295, qn352, qn353, qn533, qn999, qn1000, qn1023, qn6561, qn10000, qn20787, qn1000000, qn252645135, qn858993459, qn1000000000, qn1431655765, q_s1, q_s2, q_s3, q_s4, q_s5, iI_add, iI_sub, iI_mul, iI_neg, q_lt, q_le, q_eq, qz0, qz1, qz2, qz3, if_pos, if_neg, reduceIte, hp, e1, e3, e2']
        · rw [tw_cp_f c (by rw [hmm]; exact Or.inr (Or.inr c3)), if_neg (by decide)]
          rw [hm] at e1
          simp only [l_X9_couplesAgree_2]
          simp (disch := omega) only [qn0, qn1, qn2, qn3, qn4, qn5, qn6, qn7, qn8, qn9, qn10, qn11, qn12, qn13, qn14, qn15, qn16, qn17, qn18, qn24, qn30, qn31, qn32, qn33, qn36, qn38, qn40, qn41, qn42, qn43, qn45, qn47, qn48, qn49, qn50, qn51, qn52, qn53, qn57, qn58, qn59, qn60, qn61, qn62, qn63, qn91, qn93, qn97, qn99, qn100, qn103, qn104, qn112, qn113, qn115, qn116, qn118, qn119, qn121, qn124, qn173, qn177, qn240, qn255, qn295, qn352, qn353, qn533, qn999, qn1000, qn1023, qn6561, qn10000, qn20787, qn1000000, qn252645135, qn858993459, qn1000000000, qn1431655765, q_s1, q_s2, q_s3, q_s4, q_s5, iI_add, iI_sub, iI_mul, iI_neg, q_lt, q_le, q_eq, qz0, qz1, qz2, qz3, if_pos, if_neg, reduceIte, hp, e1, e3]
theorem tw_b0 : tw_b n tw_0 := ⟨Nat.zero_le _, Nat.zero_le _, fun _ _ _ => rfl, Nat.zero_le _, it_u0_b, fun i k hi => absurd hi (Nat.not_lt_zero _)⟩
theorem c_town (w : tp_w b n) (K : tp_K b n M) : ∃ N a, f_X9_read M = some (iI (tw_f b n), tp_m N a (tw_f b n)) ∧ tw_X M N ∧ (∀ e, tw_r b n = .inl e → e ≤ n) ∧ ∀ y, tw_r b n = .inr y → tw_C M N y ∧ tw_b n y ∧ 0 < y.2.2.1 ∧ tw_cp y.2.2.1 y.2.2.2.2 y.2.2.1 0 = true := by
  have w1 := w.1
  have u1 : gs_up (tp_m M 0 (-1)) 6 2 (iI 0) = tp_m (gs_up M 6 2 (iI 0)) 0 (-1) := tp_ur _ (by decide)
  have u2 : gs_up (tp_m (gs_up M 6 2 (iI 0)) 0 (-1)) 6 3 (iI 0) = tp_m (gs_up (gs_up M 6 2 (iI 0)) 6 3 (iI 0)) 0 (-1) := tp_ur _ (by decide)
  have u3 : gs_cpyX (tp_m (gs_up (gs_up M 6 2 (iI 0)) 6 3 (iI 0)) 0 (-1)) 2 (iI 0) 7 3 (iI 0) (iI 3) = some (tp_m (it_M (gs_up (gs_up M 6 2 (iI 0)) 6 3 (iI 0)) 7 0 3 it_u0) 0 (-1)) := by
    rw [q_cx2]
    congr 1
    exact tp_rr _ (by decide)
  have C0 : tw_C M (it_M (gs_up (gs_up M 6 2 (iI 0)) 6 3 (iI 0)) 7 0 3 it_u0) tw_0 := by
    refine ⟨?_, ?_, fun k hk => ?_, fun k hk => absurd hk (Nat.not_lt_zero _), fun r x1 x2 x3 => ?_⟩
    · rw [it_M_r (by decide), ma_cell_ne _ _ _ _ _ _ (by decide), gs_up_eq]
      rfl
    · rw [it_M_r (by decide), gs_up_eq]
      rfl
    · have := it_M_i (M := gs_up (gs_up M 6 2 (iI 0)) 6 3 (iI 0)) (r := 7) (o := 0) (l := 3) (g := it_u0) hk
      rw [Nat.zero_add] at this
      exact this
    · rw [it_M_r x2, ma_row_ne _ _ _ _ _ x1, ma_row_ne _ _ _ _ _ x1]
  have hcb := tw_cl_b w (tw_b0 (n := n))
  obtain ⟨N1, a1, hX, k1, k2⟩ := c_clause w K tw_b0 C0
  have eg : tw_go b n 241 tw_0 = match tw_cl b n tw_0 with | .inl e => .inl e | .inr x => tw_nx b n 240 x := tw_go_s b n 240 tw_0
  have q0 : tw_0.1 = 0 := rfl
  rw [q0] at k1 k2
  unfold f_X9_read tw_f
  match hR : tw_cl b n tw_0 with
  | .inl u =>
    have e3 := k1 u hR
    have hu := hcb.1 u hR
    have er : tw_r b n = .inl u := by
      unfold tw_r
      rw [eg, hR]
      rfl
    rw [er]
    have es : ∀ f, l_X9_read_35 (f + 1) (iI 0) (iI 0) (tp_m N1 a1 u) = some (iI 0, iI 0, tp_m N1 a1 u) := fun f => by
      simp only [l_X9_read_35]
      simp (disch := omega) only [qn0, qn1, qn2, qn3, qn4, qn5, qn6, qn7, qn8, qn9, qn10, qn11, qn12, qn13, qn14, qn15, qn16, qn17, qn18, qn24, qn30, qn31, qn32, qn33, qn36, qn38, qn40, qn41, qn42, qn43, qn45, qn47, qn48, qn49, qn50, qn51, qn52, qn53, qn57, qn58, qn59, qn60, qn61, qn62, qn63, qn91, qn93, qn97, qn99, qn100, qn103, qn104, qn112, qn113, qn115, qn116, qn118, qn119, qn121, qn124, qn173, qn177, qn240, qn255, qn295, qn352, qn353, qn533, qn999, qn1000, qn1023, qn6561, qn10000, qn20787, qn1000000, qn252645135, qn858993459, qn1000000000, qn1431655765, q_s1, q_s2, q_s3, q_s4, q_s5, iI_add, iI_sub, iI_mul, iI_neg, q_lt, q_le, q_eq, qz0, qz1, qz2, qz3, if_pos, if_neg, reduceIte]
    have es' : l_X9_read_35 gs_FU (iI 0) (iI 0) (tp_m N1 a1 u) = some (iI 0, iI 0, tp_m N1 a1 u) := es _
    refine ⟨N1, a1, ?_, hX, fun e h => by cases h; exact hu, fun y h => by cases h⟩
    simp (disch := omega) only [qn0, qn1, qn2, qn3, qn4, qn5, qn6, qn7, qn8, qn9, qn10, qn11, qn12, qn13, qn14, qn15, qn16, qn17, qn18, qn24, qn30, qn31, qn32, qn33, qn36, qn38, qn40, qn41, qn42, qn43, qn45, qn47, qn48, qn49, qn50, qn51, qn52, qn53, qn57, qn58, qn59, qn60, qn61, qn62, qn63, qn91, qn93, qn97, qn99, qn100, qn103, qn104, qn112, qn113, qn115, qn116, qn118, qn119, qn121, qn124, qn173, qn177, qn240, qn255, qn295, qn352, qn353, qn533, qn999, qn1000, qn1023, qn6561, qn10000, qn20787, qn1000000, qn252645135, qn858993459, qn1000000000, qn1431655765, q_s1, q_s2, q_s3, q_s4, q_s5, iI_add, iI_sub, iI_mul, iI_neg, q_lt, q_le, q_eq, qz0, qz1, qz2, qz3, if_pos, if_neg, reduceIte, c_rew, u1, u2, u3, e3, es', f_X7_firstFault, tp_m3]
  | .inr x =>
    obtain ⟨e3, C1⟩ := k2 x hR
    obtain ⟨hx1, hx2⟩ := hcb.2 x hR
    rw [q0] at hx1
    obtain ⟨N2, a2, j1, j2, j3⟩ := c_rl w K 240 0 gs_FU x N1 hx2 C1 (by omega) (by omega) (by decide)
    have er : tw_r b n = tw_en (tw_nx b n 240 x) := by
      unfold tw_r
      rw [eg, hR]
    rw [er]
    match hS : tw_nx b n 240 x with
    | .inl u =>
      obtain ⟨hu, k3 | ⟨k3, k4, k5⟩⟩ := j2 u hS
      · obtain ⟨j, k3⟩ := k3
        have k3' : l_X9_read_35 gs_FU (iI 1) (iI 0) (tp_m N1 x.1 (-1)) = some (iI 0, j, tp_m N2 a2 u) := k3
        refine ⟨N2, a2, ?_, j1, fun e h => by cases h; exact hu, fun y h => by cases h⟩
        show _ = some (iI (u : Int), tp_m N2 a2 (u : Int))
        simp (disch := omega) only [qn0, qn1, qn2, qn3, qn4, qn5, qn6, qn7, qn8, qn9, qn10, qn11, qn12, qn13, qn14, qn15, qn16, qn17, qn18, qn24, qn30, qn31, qn32, qn33, qn36, qn38, qn40, qn41, qn42, qn43, qn45, qn47, qn48, qn49, qn50, qn51, qn52, qn53, qn57, qn58, qn59, qn60, qn61, qn62, qn63, qn91, qn93, qn97, qn99, qn100, qn103, qn104, qn112, qn113, qn115, qn116, qn118, qn119, qn121, qn124, qn173, qn177, qn240, qn255, qn295, qn352, qn353, qn533, qn999, qn1000, qn1023, qn6561, qn10000, qn20787, qn1000000, qn252645135, qn858993459, qn1000000000, qn1431655765, q_s1, q_s2, q_s3, q_s4, q_s5, iI_add, iI_sub, iI_mul, iI_neg, q_lt, q_le, q_eq, qz0, qz1, qz2, qz3, if_pos, if_neg, reduceIte, c_rew, u1, u2, u3, e3, k3', f_X7_firstFault, tp_m3]
      · obtain ⟨j, k3⟩ := k3
        have k3' : l_X9_read_35 gs_FU (iI 1) (iI 0) (tp_m N1 x.1 (-1)) = some (iI 1, j, tp_m N2 u (-1)) := k3
        have e4 := c_look (t := -1) w (j1.K K) hu
        rw [k4] at e4
        have hl := tp_l_b (a := u) w
        have e5 := c_fail (M := N2) (a := u)
        refine ⟨N2, u, ?_, j1, fun e h => by cases h; exact hu, fun y h => by cases h⟩
        show _ = some (iI (u : Int), tp_m N2 u (u : Int))
        simp (disch := omega) only [qn0, qn1, qn2, qn3, qn4, qn5, qn6, qn7, qn8, qn9, qn10, qn11, qn12, qn13, qn14, qn15, qn16, qn17, qn18, qn24, qn30, qn31, qn32, qn33, qn36, qn38, qn40, qn41, qn42, qn43, qn45, qn47, qn48, qn49, qn50, qn51, qn52, qn53, qn57, qn58, qn59, qn60, qn61, qn62, qn63, qn91, qn93, qn97, qn99, qn100, qn103, qn104, qn112, qn113, qn115, qn116, qn118, qn119, qn121, qn124, qn173, qn177, qn240, qn255, qn295, qn352, qn353, qn533, qn999, qn1000, qn1023, qn6561, qn10000, qn20787, qn1000000, qn252645135, qn858993459, qn1000000000, qn1431655765, q_s1, q_s2, q_s3, q_s4, q_s5, iI_add, iI_sub, iI_mul, iI_neg, q_lt, q_le, q_eq, qz0, qz1, qz2, qz3, if_pos, if_neg, reduceIte, c_rew, u1, u2, u3, e3, k3', e4, e5, f_X7_firstFault, tp_m3]
    | .inr y =>
      obtain ⟨k3, C2, B2, k4, k5⟩ := j3 y hS
      obtain ⟨j, k3⟩ := k3
      have k3' : l_X9_read_35 gs_FU (iI 1) (iI 0) (tp_m N1 x.1 (-1)) = some (iI 1, j, tp_m N2 y.1 (-1)) := k3
      have e4 := c_look (t := -1) w (j1.K K) B2.1
      rw [k4, k5] at e4
      have e5 := c_fail (M := N2) (a := y.1)
      have r62 : tp_m N2 y.1 (-1) 6 2 = iI (y.2.2.1 : Nat) := C2.1
      have hp8 := B2.2.2.2.1
      have e6 := c_cpl (N := tp_m N2 y.1 (-1)) r62 C2.2.2.2.1 (fun i hi => B2.2.2.2.2.2 i 4 hi (by decide)) hp8 y.2.2.1 0 gs_FU (by omega) (by
        have : (8 : Nat) < gs_FU := by decide
        omega)
      have e6' : f_X9_couplesAgree (tp_m N2 y.1 (-1)) = some (if tw_cp y.2.2.1 y.2.2.2.2 y.2.2.1 0 = true then iI 1 else iI 0) := e6
      by_cases c : y.2.2.1 = 0 ∨ tw_cp y.2.2.1 y.2.2.2.2 y.2.2.1 0 = false
      · have ee : tw_en (.inr y) = .inl y.1 := if_pos c
        rw [ee]
        refine ⟨N2, y.1, ?_, j1, fun e h => by cases h; exact B2.1, fun y h => by cases h⟩
        show _ = some (iI (y.1 : Int), tp_m N2 y.1 (y.1 : Int))
        have hy1 := B2.1
        by_cases c2 : y.2.2.1 = 0
        · simp (disch := omega) only [qn0, qn1, qn2, qn3, qn4, qn5, qn6, qn7, qn8, qn9, qn10, qn11, qn12, qn13, qn14, qn15, qn16, qn17, qn18, qn24, qn30, qn31, qn32, qn33, qn36, qn38, qn40, qn41, qn42, qn43, qn45, qn47, qn48, qn49, qn50, qn51, qn52, qn53, qn57, qn58, qn59, qn60, qn61, qn62, qn63, qn91, qn93, qn97, qn99, qn100, qn103, qn104, qn112, qn113, qn115, qn116, qn118, qn119, qn121, qn124, qn173, qn177, qn240, qn255, qn295, qn352, qn353, qn533, qn999, qn1000, qn1023, qn6561, qn10000, qn20787, qn1000000, qn252645135, qn858993459, qn1000000000, qn1431655765, q_s1, q_s2, q_s3, q_s4, q_s5, iI_add, iI_sub, iI_mul, iI_neg, q_lt, q_le, q_eq, qz0, qz1, qz2, qz3, if_pos, if_neg, reduceIte, c_rew, u1, u2, u3, e3, k3', e4, e5, r62, f_X7_firstFault, tp_m3]
        · have c3 : tw_cp y.2.2.1 y.2.2.2.2 y.2.2.1 0 = false := c.resolve_left c2
          rw [c3, if_neg (by decide)] at e6'
          simp (disch := omega) only [qn0, qn1, qn2, qn3, qn4, qn5, qn6, qn7, qn8, qn9, qn10, qn11, qn12, qn13, qn14, qn15, qn16, qn17, qn18, qn24, qn30, qn31, qn32, qn33, qn36, qn38, qn40, qn41, qn42, qn43, qn45, qn47, qn48, qn49, qn50, qn51, qn52, qn53, qn57, qn58, qn59, qn60, qn61, qn62, qn63, qn91, qn93, qn97, qn99, qn100, qn103, qn104, qn112, qn113, qn115, qn116, qn118, qn119, qn121, qn124, qn173, qn177, qn240, qn255, qn295, qn352, qn353, qn533, qn999, qn1000, qn1023, qn6561, qn10000, qn20787, qn1000000, qn252645135, qn858993459, qn1000000000, qn1431655765, q_s1, q_s2, q_s3, q_s4, q_s5, iI_add, iI_sub, iI_mul, iI_neg, q_lt, q_le, q_eq, qz0, qz1, qz2, qz3, if_pos, if_neg, reduceIte, c_rew, u1, u2, u3, e3, k3', e4, e5, e6', r62, f_X7_firstFault, tp_m3]
      · have ee : tw_en (.inr y) = .inr y := if_neg c
        have c2 : y.2.2.1 ≠ 0 := fun h => c (Or.inl h)
        have c3 : tw_cp y.2.2.1 y.2.2.2.2 y.2.2.1 0 = true := by
          cases h : tw_cp y.2.2.1 y.2.2.2.2 y.2.2.1 0 with
          | true => rfl
          | false => exact absurd (Or.inr h) c
        rw [ee]
        refine ⟨N2, y.1, ?_, j1, fun e h => (by cases h), fun z h => ?_⟩
        · show _ = some (iI (-1), tp_m N2 y.1 (-1))
          rw [c3, if_pos rfl] at e6'
          simp (disch := omega) only [qn0, qn1, qn2, qn3, qn4, qn5, qn6, qn7, qn8, qn9, qn10, qn11, qn12, qn13, qn14, qn15, qn16, qn17, qn18, qn24, qn30, qn31, qn32, qn33, qn36, qn38, qn40, qn41, qn42, qn43, qn45, qn47, qn48, qn49, qn50, qn51, qn52, qn53, qn57, qn58, qn59, qn60, qn61, qn62, qn63, qn91, qn93, qn97, qn99, qn100, qn103, qn104, qn112, qn113, qn115, qn116, qn118, qn119, qn121, qn124, qn173, qn177, qn240, qn255, qn295, qn352, qn353, qn533, qn999, qn1000, qn1023, qn6561, qn10000, qn20787, qn1000000, qn252645135, qn858993459, qn1000000000, qn1431655765, q_s1, q_s2, q_s3, q_s4, q_s5, iI_add, iI_sub, iI_mul, iI_neg, q_lt, q_le, q_eq, qz0, qz1, qz2, qz3, if_pos, if_neg, reduceIte, c_rew, u1, u2, u3, e3, k3', e4, e6', r62, f_X7_firstFault, tp_m3]
        · cases h
          exact ⟨C2, B2, by omega, c3⟩
end Town2
