/-! a WATCH taken: the model, and both; FAULT of a TOWN and of a WATCH -/
section TextW2
variable {s : Nat → Int} {T : Nat → Nat → Int} {V : ma_V} {M M1 N : gs_M} {L : gs_L} {g : Nat → Int} {i : Nat}
theorem m_l137 (x2 : Int32) {K : Nat} (hK : K < 4) (P : gs_M) (h : P 147 26 = iI (K : Int)) : ∃ j Q, l_X12_text_137 (iI 2) x2 gs_FU (iI 0) P = some (j, Q) ∧ (∀ k, k < 9 → Q 156 (9 * K + k) = P 156 (36 + k)) ∧ ∀ x y, (x ≠ 156 ∨ y < 9 * K ∨ 9 * K + 9 ≤ y) → Q x y = P x y := by
  obtain ⟨r, e, N1, h1, h2, rfl⟩ := ma_up0 (fun f i (k : gs_M) => l_X12_text_137 (iI 2) x2 f i k) 9
    (fun i k => (∀ j, j < i → k 156 (9 * K + j) = P 156 (36 + j)) ∧ ∀ x y, (x ≠ 156 ∨ y < 9 * K ∨ 9 * K + 9 ≤ y) → k x y = P x y)
    (fun r => ∃ Q, (∀ j, j < 9 → Q 156 (9 * K + j) = P 156 (36 + j)) ∧ (∀ x y, (x ≠ 156 ∨ y < 9 * K ∨ 9 * K + 9 ≤ y) → Q x y = P x y) ∧ r = (iI (9 : Nat), Q)) P (by decide) ⟨fun j hj => by omega, fun _ _ _ => rfl⟩
    (by
      rintro f i k hi ⟨h1, h2⟩
      left
      have e1 : gs_rd k 156 45 (iI (36 + (i : Int))) = some (P 156 (36 + i)) := by
        rw [q_rdn (36 + i) (by omega) (by omega) (by decide), h2 _ _ (by omega)]
      have e2 : k 147 26 = iI (K : Int) := by rw [h2 _ _ (by omega)]; exact h
      have e4 : ∀ v, gs_wr k 156 45 (iI (9 * (K : Int) + i)) v = some (gs_up k 156 (9 * K + i) v) := fun v => by
        rw [q_wrn (9 * K + i) (by omega) (by omega) (by decide)]
      refine ⟨gs_up k 156 (9 * K + i) (P 156 (36 + i)), ?_, fun j hj => ?_, fun x y hxy => ?_⟩
      · simp only [l_X12_text_137]
        simp (disch := omega) only [qn0, qn1, qn2, qn3, qn4, qn5, qn6, qn7, qn8, qn9, qn10, qn11, qn12, qn13, qn14, qn15, qn16, qn17, qn18, qn24, qn30, qn31, qn32, qn33, qn36, qn38, qn40, qn41, qn42, qn43, qn45, qn47, qn48, qn49, qn50, qn51, qn52, qn53, qn57, qn58, qn59, qn60, qn61, qn62, qn63, qn91, qn93, qn97, qn99, qn100, qn103, qn104, qn112, qn113, qn115, qn116, qn118, qn119, qn121, qn124, qn173, qn177, qn240, qn255, qn295, qn352, qn353, qn533, qn999, qn1000, qn1023, qn6561, qn10000, qn20787, qn1000000, qn252645135, qn858993459, qn1000000000, qn1431655765, q_s1, q_s2, q_s3, q_s4, q_s5, iI_add, iI_sub, iI_mul, iI_neg, q_lt, q_le, q_eq, qz0, qz1, qz2, qz3, if_pos, if_neg, reduceIte, e1, e2, e4]
      · by_cases c : j = i
        · subst c
          rw [gs_up_eq]
        · rw [ma_cell_ne _ _ _ _ _ _ (by omega)]
          exact h1 j (by omega)
      · rw [ma_cell_ne _ _ _ _ _ _ (by omega)]
        exact h2 x y hxy)
    (by
      rintro f k ⟨h1, h2⟩
      refine ⟨_, ?_, k, h1, h2, rfl⟩
      simp only [l_X12_text_137]
      simp (disch := omega) only [qn0, qn1, qn2, qn3, qn4, qn5, qn6, qn7, qn8, qn9, qn10, qn11, qn12, qn13, qn14, qn15, qn16, qn17, qn18, qn24, qn30, qn31, qn32, qn33, qn36, qn38, qn40, qn41, qn42, qn43, qn45, qn47, qn48, qn49, qn50, qn51, qn52, qn53, qn57, qn58, qn59, qn60, qn61, qn62, qn63, qn91, qn93, qn97, qn99, qn100, qn103, qn104, qn112, qn113, qn115, qn116, qn118, qn119, qn121, qn124, qn173, qn177, qn240, qn255, qn295, qn352, qn353, qn533, qn999, qn1000, qn1023, qn6561, qn10000, qn20787, qn1000000, qn252645135, qn858993459, qn1000000000, qn1431655765, q_s1, q_s2, q_s3, q_s4, q_s5, iI_add, iI_sub, iI_mul, iI_neg, q_lt, q_le, q_eq, qz0, qz1, qz2, qz3, if_pos, if_neg, reduceIte])
  exact ⟨_, N1, e, h1, h2⟩
theorem wt_f_b (w : ma_wT T) : wt_f (T 4) (T 3 7).toNat = -1 ∨ (0 ≤ wt_f (T 4) (T 3 7).toNat ∧ wt_f (T 4) (T 3 7).toNat ≤ 240) := by
  have wb := tp_of w
  have hb := wt_r_b wb
  have hs := tp_s_b (b := T 4) hb.1
  have := wb.1
  unfold wt_f wt_ft
  split <;> omega
/-- FAULT of a WATCH: the model -/
theorem m_fau2 (w : ma_wT T) (D : ma_M s T V M) : ∃ N a', f_X12_fault M (iI 2) = some (iI (wt_f (T 4) (T 3 7).toNat), md_m N a' (wt_f (T 4) (T 3 7).toNat)) ∧ wt_e (md_0 (gs_up M 147 0 (iI 0))) N ∧ (wt_f (T 4) (T 3 7).toNat = -1 → N 157 4 = iI ((wt_r (T 4) (T 3 7).toNat).2.1 : Nat) ∧ ∀ j, j < (wt_r (T 4) (T 3 7).toNat).2.1 → N 156 (36 + j) = iI ((wt_r (T 4) (T 3 7).toNat).2.2 j)) := by
  obtain ⟨N, a', e1, he, hv⟩ := m_watch w (ma_D0 D w (iI 0))
  refine ⟨N, a', ?_, he, hv⟩
  unfold f_X12_fault
  simp (disch := omega) only [qn0, qn1, qn2, qn3, qn4, qn5, qn6, qn7, qn8, qn9, qn10, qn11, qn12, qn13, qn14, qn15, qn16, qn17, qn18, qn24, qn30, qn31, qn32, qn33, qn36, qn38, qn40, qn41, qn42, qn43, qn45, qn47, qn48, qn49, qn50, qn51, qn52, qn53, qn57, qn58, qn59, qn60, qn61, qn62, qn63, qn91, qn93, qn97, qn99, qn100, qn103, qn104, qn112, qn113, qn115, qn116, qn118, qn119, qn121, qn124, qn173, qn177, qn240, qn255, qn295, qn352, qn353, qn533, qn999, qn1000, qn1023, qn6561, qn10000, qn20787, qn1000000, qn252645135, qn858993459, qn1000000000, qn1431655765, qj0, qj1, qj2, qj4, qj7, qj8, qj9, qj10, qj30, qj100, qj1000, qj1000000, qj1000000000, qj1442695040888963407, qj6364136223846793005, q_s1, q_s2, q_s3, q_s4, q_s5, iI_add, iI_sub, iI_mul, iI_neg, q_lt, q_le, q_eq, jI_add, jI_sub, jI_mul, jI_neg, jI_of, jI_to, j_le0, j_ge0, j_lt0, j_gt0, j_eq0, q_dvl, qz0, qz1, qz2, qz3, if_pos, if_neg, reduceIte, m_isIn, e1, md_m11]
theorem wt_e_co (he : wt_e (md_0 (gs_up M 147 0 (iI 0))) N) (a : Nat) (t : Int) : iv_co M (md_m N a t) := by
  refine iv_md (fun x y e => ?_)
  have h0 : iv_co M (md_0 (gs_up M 147 0 (iI 0))) := (iv_co.rf.up (i := 147) (k := 0) (iI 0) rfl).tr iv_md0
  rw [← h0 x y e]
  by_cases c : x = 156
  · subst c
    refine he.2.1 y ?_
    simp only [iv_scr, Bool.or_eq_false_iff, Bool.and_eq_false_iff, beq_eq_false_iff_ne, decide_eq_false_iff_not] at e
    omega
  · by_cases c2 : x = 157
    · subst c2
      refine he.2.2 y ?_
      rintro rfl
      exact absurd e (by decide)
    · rw [he.1 x c c2]
theorem wt_e_lo (he : wt_e (md_0 (gs_up M 147 0 (iI 0))) N) {x : Nat} (hx : x ≤ 146) : N x = M x := by
  rw [he.1 x (by omega) (by omega)]
  unfold md_0
  rw [ma_row_ne _ _ _ _ _ (by omega), ma_row_ne _ _ _ _ _ (by omega), ma_row_ne _ _ _ _ _ (by omega), ma_row_ne _ _ _ _ _ (by omega)]
/-- the model takes a WATCH -/
theorem m_addW (w : ma_wT T) (D : ma_M s T V M) (c : T 3 5 < 4) (hf : wt_f (T 4) (T 3 7).toNat = -1) : ∃ M2, f_X12_text M (iI 2) = some (iI (T 3 5 + 1 - 1), M2) ∧ (∀ x, x ≤ 146 → M2 x = M x) ∧ ma_M s (wt_T T (wt_r (T 4) (T 3 7).toNat).2.2 (wt_r (T 4) (T 3 7).toNat).2.1) V M2 := by
  obtain ⟨f1, f2, f3, f4, f5, f6, f7, f8, f9, f10, f11, f12, -⟩ := id w
  have hb := wt_r_b (tp_of w)
  have D0 := ma_D0 D w (iI 0)
  obtain ⟨N, a, e1, he, hv⟩ := m_fau2 w D0
  obtain ⟨hv1, hv2⟩ := hv hf
  rw [hf] at e1
  generalize wt_r (T 4) (T 3 7).toNat = R at hv1 hv2 hb ⊢
  obtain ⟨K, hK⟩ : ∃ K : Nat, T 3 5 = K := ⟨(T 3 5).toNat, by omega⟩
  have hK' : (T 3 5).toNat = K := by omega
  have hco : iv_co M (md_m N a (-1)) := (iv_co.rf.up (i := 147) (k := 0) (iI 0) rfl).tr (wt_e_co he a (-1))
  have r26 : gs_up M 147 0 (iI 0) 147 26 = iI (K : Int) := by rw [D0.wm, hK]
  have p26 : gs_up (md_m N a (-1)) 147 6 (iI 0) 147 26 = iI (K : Int) := by
    rw [ma_cell_ne _ _ _ _ _ _ (by decide), hco 147 26 rfl, D.wm, hK]
  obtain ⟨j, Q, e2, q1, q2⟩ := m_l137 (md_m N a (-1) 147 6) (K := K) (by omega) (gs_up (md_m N a (-1)) 147 6 (iI 0)) p26
  have q26 : Q 147 26 = iI (K : Int) := by rw [q2 _ _ (Or.inl (by decide))]; exact p26
  have e3 : gs_rd Q 157 5 (iI 4) = some (iI (R.2.1 : Nat)) := by
    rw [q_rdn (z := 4) 4 rfl (by decide) (by decide), q2 _ _ (Or.inl (by decide)), ma_row_ne _ _ _ _ _ (by decide), md_mr (by decide), hv1]
  have e4 : gs_wr Q 157 5 (iI (K : Int)) (iI (R.2.1 : Nat)) = some (gs_up Q 157 K (iI (R.2.1 : Nat))) := q_wrn K rfl (by omega) (by decide)
  have e5 : gs_up Q 157 K (iI (R.2.1 : Nat)) 147 26 = iI (K : Int) := by rw [ma_row_ne _ _ _ _ _ (by decide)]; exact q26
  have e6 : gs_up (gs_up Q 157 K (iI (R.2.1 : Nat))) 147 26 (iI ((K : Int) + 1)) 147 26 = iI ((K : Int) + 1) := gs_up_eq _ _ _ _
  refine ⟨gs_up (gs_up Q 157 K (iI (R.2.1 : Nat))) 147 26 (iI ((K : Int) + 1)), ?_, fun x hx => ?_, ?_⟩
  · rw [hK]
    unfold f_X12_text
    simp (disch := omega) only [qn0, qn1, qn2, qn3, qn4, qn5, qn6, qn7, qn8, qn9, qn10, qn11, qn12, qn13, qn14, qn15, qn16, qn17, qn18, qn24, qn30, qn31, qn32, qn33, qn36, qn38, qn40, qn41, qn42, qn43, qn45, qn47, qn48, qn49, qn50, qn51, qn52, qn53, qn57, qn58, qn59, qn60, qn61, qn62, qn63, qn91, qn93, qn97, qn99, qn100, qn103, qn104, qn112, qn113, qn115, qn116, qn118, qn119, qn121, qn124, qn173, qn177, qn240, qn255, qn295, qn352, qn353, qn533, qn999, qn1000, qn1023, qn6561, qn10000, qn20787, qn1000000, qn252645135, qn858993459, qn1000000000, qn1431655765, qj0, qj1, qj2, qj4, qj7, qj8, qj9, qj10, qj30, qj100, qj1000, qj1000000, qj1000000000, qj1442695040888963407, qj6364136223846793005, q_s1, q_s2, q_s3, q_s4, q_s5, iI_add, iI_sub, iI_mul, iI_neg, q_lt, q_le, q_eq, jI_add, jI_sub, jI_mul, jI_neg, jI_of, jI_to, j_le0, j_ge0, j_lt0, j_gt0, j_eq0, q_dvl, qz0, qz1, qz2, qz3, if_pos, if_neg, reduceIte, m_isIn, r26, e1, e2, q26, e3, e4, e5, e6]
  · funext y
    rw [ma_row_ne _ _ _ _ _ (by omega), ma_row_ne _ _ _ _ _ (by omega), q2 x y (Or.inl (by omega)), ma_row_ne _ _ _ _ _ (by omega), md_mr (by omega), wt_e_lo he hx, ma_row_ne _ _ _ _ _ (by omega)]
  · refine D.wtx w hb.2.1 hb.2.2 (fun x y hx hs x1 x2 x3 => ?_) ?_ ?_ (fun j hj => ?_) (fun y hy => ?_) ?_ (fun y hy => ?_)
    · rw [ma_cell_ne _ _ _ _ _ _ (by omega), ma_row_ne _ _ _ _ _ x2, q2 x y (Or.inl x1), ma_cell_ne _ _ _ _ _ _ (by omega)]
      exact hco x y hs
    · rw [e6, hK]
    · rw [ma_cell_ne _ _ _ _ _ _ (by decide), ma_row_ne _ _ _ _ _ (by decide), q2 _ _ (Or.inl (by decide)), gs_up_eq]
    · have := hb.2.1
      rw [hK', ma_row_ne _ _ _ _ _ (by decide), ma_row_ne _ _ _ _ _ (by decide), q1 j (by omega), ma_row_ne _ _ _ _ _ (by decide), md_mr (by decide)]
      exact hv2 j hj
    · rw [hK'] at hy
      rw [ma_row_ne _ _ _ _ _ (by decide), ma_row_ne _ _ _ _ _ (by decide), q2 _ _ (by omega), ma_row_ne _ _ _ _ _ (by decide)]
      exact hco 156 y (iv_scr_156 (by omega))
    · rw [hK', ma_row_ne _ _ _ _ _ (by decide), gs_up_eq]
    · rw [hK'] at hy
      rw [ma_row_ne _ _ _ _ _ (by decide), ma_cell_ne _ _ _ _ _ _ (by omega), q2 _ _ (Or.inl (by decide)), ma_row_ne _ _ _ _ _ (by decide)]
      exact hco 157 y (iv_scr_157 (by omega))
theorem x_watch (W : ma_W s T V) (C : ma_C s T V M) (D : ma_M s T V M) : ∃ v M1 M2, f_X11_text M (iI 2) = some (v, M1) ∧ f_X12_text M1 (iI 2) = some (v, M2) ∧ ma_Inv M2 L := by
  have w := W.2.1
  obtain ⟨f1, f2, f3, f4, f5, f6, f7, f8, f9, f10, f11, f12, -⟩ := id w
  have D0 := ma_D0 D w (iI 0)
  have r0 := C.wm
  by_cases c : T 3 5 < 4
  · rcases wt_f_b w with hf | hf
    · obtain ⟨M1, e1, h1, C1⟩ := c_addW w C c hf
      have D1 : ma_M s T V M1 := D.hi w (fun a b h _ => by rw [h1 a h])
      obtain ⟨M2, e2, h2, D2⟩ := m_addW w D1 c hf
      have hb := wt_r_b (tp_of w)
      have w' := wt_T_w w c hb.2.2
      exact ⟨_, M1, M2, e1, e2, s, _, V, ⟨W.1, w', wt_T_V W.2.2⟩, C1.lo w' (fun a b h _ => by rw [h2 a h]), D2⟩
    · obtain ⟨N, a, e1, -, hN, hX⟩ := c_watch (tp_of w) (tp_ofC w C)
      have hco : iv_co M (tp_m N a (wt_f (T 4) (T 3 7).toNat)) := iv_tp (fun x y e => by rw [hX x (by rintro rfl; exact absurd e (by simp [iv_scr]))])
      have D1 := ma_D0 (D.co w hco) w (iI 0)
      obtain ⟨N2, a2, e2, he, -⟩ := m_fau2 w D1
      have hco2 := (hco.up (i := 147) (k := 0) (iI 0) rfl).tr (wt_e_co he a2 (wt_f (T 4) (T 3 7).toNat))
      have r26 := D1.wm
      refine ⟨iI (-1), tp_m N a (wt_f (T 4) (T 3 7).toNat), md_m N2 a2 (wt_f (T 4) (T 3 7).toNat), ?_, ?_, s, T, V, W, C.co w hco2, D.co w hco2⟩
      · unfold f_X11_text f_X10_add
        simp (disch := omega) only [qn0, qn1, qn2, qn3, qn4, qn5, qn6, qn7, qn8, qn9, qn10, qn11, qn12, qn13, qn14, qn15, qn16, qn17, qn18, qn24, qn30, qn31, qn32, qn33, qn36, qn38, qn40, qn41, qn42, qn43, qn45, qn47, qn48, qn49, qn50, qn51, qn52, qn53, qn57, qn58, qn59, qn60, qn61, qn62, qn63, qn91, qn93, qn97, qn99, qn100, qn103, qn104, qn112, qn113, qn115, qn116, qn118, qn119, qn121, qn124, qn173, qn177, qn240, qn255, qn295, qn352, qn353, qn533, qn999, qn1000, qn1023, qn6561, qn10000, qn20787, qn1000000, qn252645135, qn858993459, qn1000000000, qn1431655765, q_s1, q_s2, q_s3, q_s4, q_s5, iI_add, iI_sub, iI_mul, iI_neg, q_lt, q_le, q_eq, qz0, qz1, qz2, qz3, if_pos, if_neg, reduceIte, r0, e1]
      · unfold f_X12_text
        simp (disch := omega) only [qn0, qn1, qn2, qn3, qn4, qn5, qn6, qn7, qn8, qn9, qn10, qn11, qn12, qn13, qn14, qn15, qn16, qn17, qn18, qn24, qn30, qn31, qn32, qn33, qn36, qn38, qn40, qn41, qn42, qn43, qn45, qn47, qn48, qn49, qn50, qn51, qn52, qn53, qn57, qn58, qn59, qn60, qn61, qn62, qn63, qn91, qn93, qn97, qn99, qn100, qn103, qn104, qn112, qn113, qn115, qn116, qn118, qn119, qn121, qn124, qn173, qn177, qn240, qn255, qn295, qn352, qn353, qn533, qn999, qn1000, qn1023, qn6561, qn10000, qn20787, qn1000000, qn252645135, qn858993459, qn1000000000, qn1431655765, qj0, qj1, qj2, qj4, qj7, qj8, qj9, qj10, qj30, qj100, qj1000, qj1000000, qj1000000000, qj1442695040888963407, qj6364136223846793005, q_s1, q_s2, q_s3, q_s4, q_s5, iI_add, iI_sub, iI_mul, iI_neg, q_lt, q_le, q_eq, jI_add, jI_sub, jI_mul, jI_neg, jI_of, jI_to, j_le0, j_ge0, j_lt0, j_gt0, j_eq0, q_dvl, qz0, qz1, qz2, qz3, if_pos, if_neg, reduceIte, m_isIn, r26, e2]
  · have c4 : T 3 5 = 4 := by omega
    have r1 := D0.wm
    rw [c4] at r0 r1
    refine ⟨iI (-1), M, gs_up M 147 0 (iI 0), ?_, ?_, s, T, V, W, C.lo w (iv_lo.rf.up (i := 147) (k := 0) (iI 0) (by decide)), D0⟩
    · unfold f_X11_text f_X10_add
      simp (disch := omega) only [qn0, qn1, qn2, qn3, qn4, qn5, qn6, qn7, qn8, qn9, qn10, qn11, qn12, qn13, qn14, qn15, qn16, qn17, qn18, qn24, qn30, qn31, qn32, qn33, qn36, qn38, qn40, qn41, qn42, qn43, qn45, qn47, qn48, qn49, qn50, qn51, qn52, qn53, qn57, qn58, qn59, qn60, qn61, qn62, qn63, qn91, qn93, qn97, qn99, qn100, qn103, qn104, qn112, qn113, qn115, qn116, qn118, qn119, qn121, qn124, qn173, qn177, qn240, qn255, qn295, qn352, qn353, qn533, qn999, qn1000, qn1023, qn6561, qn10000, qn20787, qn1000000, qn252645135, qn858993459, qn1000000000, qn1431655765, q_s1, q_s2, q_s3, q_s4, q_s5, iI_add, iI_sub, iI_mul, iI_neg, q_lt, q_le, q_eq, qz0, qz1, qz2, qz3, if_pos, if_neg, reduceIte, r0]
    · unfold f_X12_text
      simp (disch := omega) only [qn0, qn1, qn2, qn3, qn4, qn5, qn6, qn7, qn8, qn9, qn10, qn11, qn12, qn13, qn14, qn15, qn16, qn17, qn18, qn24, qn30, qn31, qn32, qn33, qn36, qn38, qn40, qn41, qn42, qn43, qn45, qn47, qn48, qn49, qn50, qn51, qn52, qn53, qn57, qn58, qn59, qn60, qn61, qn62, qn63, qn91, qn93, qn97, qn99, qn100, qn103, qn104, qn112, qn113, qn115, qn116, qn118, qn119, qn121, qn124, qn173, qn177, qn240, qn255, qn295, qn352, qn353, qn533, qn999, qn1000, qn1023, qn6561, qn10000, qn20787, qn1000000, qn252645135, qn858993459, qn1000000000, qn1431655765, qj0, qj1, qj2, qj4, qj7, qj8, qj9, qj10, qj30, qj100, qj1000, qj1000000, qj1000000000, qj1442695040888963407, qj6364136223846793005, q_s1, q_s2, q_s3, q_s4, q_s5, iI_add, iI_sub, iI_mul, iI_neg, q_lt, q_le, q_eq, jI_add, jI_sub, jI_mul, jI_neg, jI_of, jI_to, j_le0, j_ge0, j_lt0, j_gt0, j_eq0, q_dvl, qz0, qz1, qz2, qz3, if_pos, if_neg, reduceIte, m_isIn, r1]
/-- FAULT of a WATCH, both -/
theorem x_fau2 (W : ma_W s T V) (C : ma_C s T V M) (D : ma_M s T V M) : ∃ v M1 M2, f_X11_fault M (iI 2) = some (v, M1) ∧ f_X12_fault M1 (iI 2) = some (v, M2) ∧ ma_Inv M2 L := by
  have w := W.2.1
  obtain ⟨N, a, e1, -, hN, hX⟩ := c_watch (tp_of w) (tp_ofC w C)
  have hco : iv_co M (tp_m N a (wt_f (T 4) (T 3 7).toNat)) := iv_tp (fun x y e => by rw [hX x (by rintro rfl; exact absurd e (by simp [iv_scr]))])
  obtain ⟨N2, a2, e2, he, -⟩ := m_fau2 w (D.co w hco)
  have hco2 := hco.tr (wt_e_co he a2 (wt_f (T 4) (T 3 7).toNat))
  refine ⟨iI (wt_f (T 4) (T 3 7).toNat), tp_m N a (wt_f (T 4) (T 3 7).toNat), md_m N2 a2 (wt_f (T 4) (T 3 7).toNat), ?_, e2, s, T, V, W, C.co w hco2, D.co w hco2⟩
  unfold f_X11_fault
  simp (disch := omega) only [qn0, qn1, qn2, qn3, qn4, qn5, qn6, qn7, qn8, qn9, qn10, qn11, qn12, qn13, qn14, qn15, qn16, qn17, qn18, qn24, qn30, qn31, qn32, qn33, qn36, qn38, qn40, qn41, qn42, qn43, qn45, qn47, qn48, qn49, qn50, qn51, qn52, qn53, qn57, qn58, qn59, qn60, qn61, qn62, qn63, qn91, qn93, qn97, qn99, qn100, qn103, qn104, qn112, qn113, qn115, qn116, qn118, qn119, qn121, qn124, qn173, qn177, qn240, qn255, qn295, qn352, qn353, qn533, qn999, qn1000, qn1023, qn6561, qn10000, qn20787, qn1000000, qn252645135, qn858993459, qn1000000000, qn1431655765, q_s1, q_s2, q_s3, q_s4, q_s5, iI_add, iI_sub, iI_mul, iI_neg, q_lt, q_le, q_eq, qz0, qz1, qz2, qz3, if_pos, if_neg, reduceIte, e1]
end TextW2
