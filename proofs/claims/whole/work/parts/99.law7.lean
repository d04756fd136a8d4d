/-! sums and comparisons read by the class -/
/-- a class's reader F goes on behind q as the pure reader B -/
def lr_cq (b : Nat → Int) (n r : Nat) (M : gs_M) (F : gs_M → Option (Int32 × gs_M)) (B : lr_Q → lr_R) : Prop := ∀ (q : lr_Q) (N : gs_M) (pre : List Int), q.1 ≤ n → lr_X r M N → lr_K r (pre ++ q.2.1) N → (pre ++ q.2.1).length ≤ q.1 → ∃ N' a', lr_X r M N' ∧ (∀ e, B q = .inl e → lr_cnt r N' ∧ F (tp_m N q.1 (-1)) = some (iI 0, tp_m N' a' e)) ∧ ∀ y, B q = .inr y → lr_K r (pre ++ y.2.1) N' ∧ F (tp_m N q.1 (-1)) = some (iI 1, tp_m N' y.1 (-1))
section Law7
variable {b : Nat → Int} {n r : Nat} {M N : gs_M} {S : Nat → lr_R} {pre : List Int}
theorem c_S (w : tp_w b n) (hr : lr_r r) (K : tp_K b n M) (hM : M 104 1 = nI r) : ∀ (k dp d : Nat), k + dp = 6 → 3 * k + 3 ≤ d → lr_cg b n r M (fun Z => g_0 d 0 (iI (dp : Int)) Z) (lr_S b n k) := by
  intro k
  induction k with
  | zero =>
    intro dp d hk hd
    obtain ⟨d, rfl⟩ : ∃ m, d = m + 1 + 1 + 1 := ⟨d - 3, by omega⟩
    have hA : lr_cg b n r M (fun Z => f_X3_readAtom (g_0 d) Z (iI (dp : Int))) (lr_atom b n none) := c_atom (H := 1) w hr K hM (Or.inl ⟨by omega, rfl⟩)
    have hB : lr_cg b n r M (fun Z => f_X3_readTerm (g_0 (d + 1)) Z (iI (dp : Int))) (lr_ch b n lr_pT (lr_atom b n none)) := c_chT w hr K hM hA (lr_atom_g (H := 1) w (fun S h => by cases h) (by decide))
    exact c_chS w hr K hM hB (lr_ch_g w lr_pT_h lr_pT_v (lr_atom_g (H := 1) w (fun S h => by cases h) (by decide)))
  | succ k ih =>
    intro dp d hk hd
    obtain ⟨d, rfl⟩ : ∃ m, d = m + 1 + 1 + 1 := ⟨d - 3, by omega⟩
    have hI := ih (dp + 1) d (by omega) (by omega)
    have hg : ∀ S, some (lr_S b n k) = some S → lr_gd n (3 + 2 * k) lr_num S := fun S h => by cases h; exact lr_S_g w k
    have hA : lr_cg b n r M (fun Z => f_X3_readAtom (g_0 d) Z (iI (dp : Int))) (lr_atom b n (some (lr_S b n k))) := c_atom w hr K hM (Or.inr ⟨by omega, _, rfl, hI, lr_S_g w k⟩)
    have hB : lr_cg b n r M (fun Z => f_X3_readTerm (g_0 (d + 1)) Z (iI (dp : Int))) (lr_ch b n lr_pT (lr_atom b n (some (lr_S b n k)))) := c_chT w hr K hM hA (lr_atom_g w hg (by omega))
    exact c_chS w hr K hM hB (lr_ch_g w lr_pT_h lr_pT_v (lr_atom_g w hg (by omega)))
theorem c_cmp {z : Int} (h : -1 ≤ z ∧ z ≤ 255) : f_X3_compares (iI z) = some (if lr_pC z = true then iI 1 else iI 0) := by
  unfold f_X3_compares
  by_cases c : lr_pC z = true
  · rw [if_pos c]
    rcases lr_pC_h z c with rfl | rfl | rfl <;> decide +kernel
  · rw [if_neg c]
    simp only [lr_pC, Bool.or_eq_true, beq_iff_eq] at c
    simp (disch := omega) only [qn0, qn1, qn2, qn3, qn4, qn5, qn6, qn7, qn8, qn9, qn10, qn11, qn12, qn13, qn14, qn15, qn16, qn17, qn18, qn24, qn30, qn31, qn32, qn33, qn36, qn38, qn40, qn41, qn42, qn43, qn45, qn47, qn48, qn49, qn50, qn51, qn52, qn53, qn57, qn58, qn59, qn60, qn61, qn62, qn63, qn91, qn93, qn97, qn99, qn100, qn103, qn104, qn112, qn113, qn115, qn116, qn118, qn119, qn121, qn124, qn173, qn177, qn240, qn255, qn295, qn352, qn353, qn533, qn999, qn1000, qn1023, qn6561, qn10000, qn20787, qn1000000, qn252645135, qn858993459, qn1000000000, qn1431655765, q_s1, q_s2, q_s3, q_s4, q_s5, iI_add, iI_sub, iI_mul, iI_neg, q_lt, q_le, q_eq, qz0, qz1, qz2, qz3, if_pos, if_neg, reduceIte]
theorem c_cm (w : tp_w b n) (hr : lr_r r) (K : tp_K b n M) (hM : M 104 1 = nI r) {G : Nat → Int32 → gs_M → Option (Int32 × gs_M)} {x0 : Int32} {H : Nat} (hS : lr_cg b n r M (fun Z => G 0 x0 Z) S) (hg : lr_gd n H lr_num S) : lr_cq b n r M (fun Z => f_X3_readComparison G Z x0) (lr_cm b n S) := by
  intro q N pre h1 h2 h3 h4
  have w1 := w.1
  have KN := h2.K hr K
  have hs := tp_s_b (b := b) h1
  have hl := tp_l_b (a := q.1) w
  have e1 := c_look (t := -1) w KN h1
  have ec := c_cmp (z := tp_l b n q.1) (by omega)
  by_cases c : lr_pC (tp_l b n q.1) = true
  · have hz := lr_pC_h _ c
    rw [if_pos c] at ec
    have e2 := c_step1 (t := -1) w KN (a := tp_s b n q.1) (by omega)
    obtain ⟨N1, a1, k0, k1, k2⟩ := hS (tp_s b n q.1 + 1) N (pre ++ q.2.1) (by omega) h2 h3 (by omega)
    have eW : ∀ a' t', gs_ckW (tp_m N1 a' t' 104 1).toNatClampNeg = some r := fun a' t' => c_ckW hr hM k0
    match hR : S (tp_s b n q.1 + 1) with
    | .inl u =>
      obtain ⟨k3, k4⟩ := k1 u hR
      simp only at k4
      obtain ⟨N2, p1, p2, p3, -⟩ := c_lput0 (a := a1) (t := (u : Int)) hr k3 (iI (-(tp_l b n q.1)))
      have e : lr_cm b n S q = .inl u := by simp only [lr_cm, if_pos c, hR]
      rw [e]
      refine ⟨N2, a1, k0.tr p3, fun e h => ?_, fun y h => (by cases h)⟩
      cases h
      refine ⟨p2, ?_⟩
      unfold f_X3_readComparison
      simp (disch := omega) only [qn0, qn1, qn2, qn3, qn4, qn5, qn6, qn7, qn8, qn9, qn10, qn11, qn12, qn13, qn14, qn15, qn16, qn17, qn18, qn24, qn30, qn31, qn32, qn33, qn36, qn38, qn40, qn41, qn42, qn43, qn45, qn47, qn48, qn49, qn50, qn51, qn52, qn53, qn57, qn58, qn59, qn60, qn61, qn62, qn63, qn91, qn93, qn97, qn99, qn100, qn103, qn104, qn112, qn113, qn115, qn116, qn118, qn119, qn121, qn124, qn173, qn177, qn240, qn255, qn295, qn352, qn353, qn533, qn999, qn1000, qn1023, qn6561, qn10000, qn20787, qn1000000, qn252645135, qn858993459, qn1000000000, qn1431655765, q_s1, q_s2, q_s3, q_s4, q_s5, iI_add, iI_sub, iI_mul, iI_neg, q_lt, q_le, q_eq, qz0, qz1, qz2, qz3, if_pos, if_neg, reduceIte, e1, ec, e2, k4, eW, p1]
    | .inr x =>
      obtain ⟨k3, k4⟩ := k2 x hR
      simp only at k4
      obtain ⟨x1, x2, x3, -⟩ := (hg (tp_s b n q.1 + 1) (by omega)).2 x hR
      have hlen : (pre ++ q.2.1 ++ x.2.1).length < x.1 := by
        rw [List.length_append]
        omega
      obtain ⟨N2, p1, p2, p3⟩ := c_lput (a := x.1) (t := -1) hr k3 (by omega) (-(tp_l b n q.1))
      have e : lr_cm b n S q = .inr (x.1, q.2.1 ++ x.2.1 ++ [-(tp_l b n q.1)], fun e => lr_op (tp_l b n q.1) (q.2.2 e) (x.2.2 e)) := by simp only [lr_cm, if_pos c, hR]
      rw [e]
      refine ⟨N2, 0, k0.tr p3, fun e h => (by cases h), fun y h => ?_⟩
      cases h
      refine ⟨?_, ?_⟩
      · have ea : pre ++ (q.2.1 ++ x.2.1 ++ [-(tp_l b n q.1)]) = pre ++ q.2.1 ++ x.2.1 ++ [-(tp_l b n q.1)] := by simp only [List.append_assoc]
        show lr_K r (pre ++ (q.2.1 ++ x.2.1 ++ [-(tp_l b n q.1)])) N2
        rw [ea]
        exact p2
      · unfold f_X3_readComparison
        simp (disch := omega) only [qn0, qn1, qn2, qn3, qn4, qn5, qn6, qn7, qn8, qn9, qn10, qn11, qn12, qn13, qn14, qn15, qn16, qn17, qn18, qn24, qn30, qn31, qn32, qn33, qn36, qn38, qn40, qn41, qn42, qn43, qn45, qn47, qn48, qn49, qn50, qn51, qn52, qn53, qn57, qn58, qn59, qn60, qn61, qn62, qn63, qn91, qn93, qn97, qn99, qn100, qn103, qn104, qn112, qn113, qn115, qn116, qn118, qn119, qn121, qn124, qn173, qn177, qn240, qn255, qn295, qn352, qn353, qn533, qn999, qn1000, qn1023, qn6561, qn10000, qn20787, qn1000000, qn252645135, qn858993459, qn1000000000, qn1431655765, q_s1, q_s2, q_s3, q_s4, q_s5, iI_add, iI_sub, iI_mul, iI_neg, q_lt, q_le, q_eq, qz0, qz1, qz2, qz3, if_pos, if_neg, reduceIte, e1, ec, e2, k4, eW, p1]
  · rw [if_neg c] at ec
    have ef := c_fail (M := N) (a := tp_s b n q.1)
    have e : lr_cm b n S q = .inl (tp_s b n q.1) := by simp only [lr_cm, if_neg c]
    rw [e]
    refine ⟨N, tp_s b n q.1, h2, fun e h => ?_, fun y h => (by cases h)⟩
    cases h
    refine ⟨h3.cnt (by omega), ?_⟩
    unfold f_X3_readComparison
    simp (disch := omega) only [qn0, qn1, qn2, qn3, qn4, qn5, qn6, qn7, qn8, qn9, qn10, qn11, qn12, qn13, qn14, qn15, qn16, qn17, qn18, qn24, qn30, qn31, qn32, qn33, qn36, qn38, qn40, qn41, qn42, qn43, qn45, qn47, qn48, qn49, qn50, qn51, qn52, qn53, qn57, qn58, qn59, qn60, qn61, qn62, qn63, qn91, qn93, qn97, qn99, qn100, qn103, qn104, qn112, qn113, qn115, qn116, qn118, qn119, qn121, qn124, qn173, qn177, qn240, qn255, qn295, qn352, qn353, qn533, qn999, qn1000, qn1023, qn6561, qn10000, qn20787, qn1000000, qn252645135, qn858993459, qn1000000000, qn1431655765, q_s1, q_s2, q_s3, q_s4, q_s5, iI_add, iI_sub, iI_mul, iI_neg, q_lt, q_le, q_eq, qz0, qz1, qz2, qz3, if_pos, if_neg, reduceIte, e1, ec, ef]
end Law7
