/-! a TOWN taken, and its FAULT: both -/
section TextT3
variable {s : Nat → Int} {T : Nat → Nat → Int} {V : ma_V} {M M1 N : gs_M} {L : gs_L} {n : Nat} {y : tw_T}
theorem tw_X_co (h : tw_X M N) (a : Nat) (t : Int) : iv_co M (tp_m N a t) := by
  refine iv_tp (fun x z e => ?_)
  rw [h x (by rintro rfl; exact absurd e (by simp [iv_scr])) (by rintro rfl; exact absurd e (by simp [iv_scr])) (by rintro rfl; exact absurd e (by simp [iv_scr]))]
theorem tw_Y_co (h : tw_Y (md_0 (gs_up M 147 0 (iI 0))) N) (a : Nat) (t : Int) : iv_co M (md_m N a t) := by
  refine iv_md (fun x z e => ?_)
  have h0 : iv_co M (md_0 (gs_up M 147 0 (iI 0))) := (iv_co.rf.up (i := 147) (k := 0) (iI 0) rfl).tr iv_md0
  rw [← h0 x z e]
  refine h x z (by rintro rfl; exact absurd e (by simp [iv_scr])) (by rintro rfl; exact absurd e (by simp [iv_scr])) ?_
  rintro ⟨rfl, rfl | rfl⟩
  · exact absurd e (by decide)
  · exact absurd e (by decide)
theorem tw_Y_lo (h : tw_Y (md_0 (gs_up M 147 0 (iI 0))) N) {x : Nat} (hx : x ≤ 146) : N x = M x := by
  funext z
  rw [h x z (by omega) (by omega) (by omega)]
  unfold md_0
  rw [ma_row_ne _ _ _ _ _ (by omega), ma_row_ne _ _ _ _ _ (by omega), ma_row_ne _ _ _ _ _ (by omega), ma_row_ne _ _ _ _ _ (by omega)]
theorem m_fau0 (w : ma_wT T) (D : ma_M s T V M) : ∃ N a', f_X12_fault M (iI 0) = some (iI (tw_f (T 4) (T 3 7).toNat), md_m N a' (tw_f (T 4) (T 3 7).toNat)) ∧ tw_Y (md_0 (gs_up M 147 0 (iI 0))) N ∧ ∀ y, tw_r (T 4) (T 3 7).toNat = .inr y → tw_M (md_0 (gs_up M 147 0 (iI 0))) N y := by
  obtain ⟨N, a', e1, he, hv⟩ := m_town (tp_of w) (md_ofM w (ma_D0 D w (iI 0)))
  refine ⟨N, a', ?_, he, hv⟩
  unfold f_X12_fault
  simp (disch := omega) only [qn0, qn1, qn2, qn3, qn4, qn5, qn6, qn7, qn8, qn9, qn10, qn11, qn12, qn13, qn14, qn15, qn16, qn17, qn18, qn24, qn30, qn31, qn32, qn33, qn36, qn38, qn40, qn41, qn42, qn43, qn45, qn47, qn48, qn49, qn50, qn51, qn52, qn53, qn57, qn58, qn59, qn60, qn61, qn62, qn63, qn91, qn93, qn97, qn99, qn100, qn103, qn104, qn112, qn113, qn115, qn116, qn118, qn119, qn121, qn124, qn173, qn177, qn240, qn255, qn295, qn352, qn353, qn533, qn999, qn1000, qn1023, qn6561, qn10000, qn20787, qn1000000, qn252645135, qn858993459, qn1000000000, qn1431655765, qj0, qj1, qj2, qj4, qj7, qj8, qj9, qj10, qj30, qj100, qj1000, qj1000000, qj1000000000, qj1442695040888963407, qj6364136223846793005, q_s1, q_s2, q_s3, q_s4, q_s5, iI_add, iI_sub, iI_mul, iI_neg, q_lt, q_le, q_eq, jI_add, jI_sub, jI_mul, jI_neg, jI_of, jI_to, j_le0, j_ge0, j_lt0, j_gt0, j_eq0, q_dvl, qz0, qz1, qz2, qz3, if_pos, if_neg, reduceIte, m_isIn, e1, md_m11]
theorem c_setT (w : ma_wT T) (C : ma_C s T V M) (hr : tw_r (T 4) (T 3 7).toNat = .inr y) : ∃ M1, f_X11_text M (iI 0) = some (iI (y.2.2.1 : Nat), M1) ∧ (∀ x, 147 ≤ x → M1 x = M x) ∧ ma_C (tw_s y.2.2.1 y.2.2.2.2) (tw_TT T y) V M1 ∧ tw_b (T 3 7).toNat y ∧ 0 < y.2.2.1 ∧ tw_cp y.2.2.1 y.2.2.2.2 y.2.2.1 0 = true := by
  obtain ⟨f1, f2, f3, f4, f5, f6, f7, f8, f9, f10, f11, f12, -⟩ := id w
  obtain ⟨N, a, e1, hX, -, hy⟩ := c_town (tp_of w) (tp_ofC w C)
  obtain ⟨C2, B2, hp0, hcp⟩ := hy y hr
  have ef : tw_f (T 4) (T 3 7).toNat = -1 := by
    unfold tw_f
    rw [hr]
  rw [ef] at e1
  have hp8 := B2.2.2.2.1
  obtain ⟨Q, e2, q1, q2, q3, q4⟩ := c_copyT C2 hp8 (a := a) (t := -1)
  obtain ⟨j1, Q1, e3, r1, r2⟩ := c_begin0 Q
  obtain ⟨j2, Q2, e4, t1, t2⟩ := c_begin1 (M := Q1) (D := y.2.2.2.2) hp8 (by rw [r2 3 (by decide)]; exact q1) (fun k hk => by rw [r2 5 (by decide)]; exact q3 k hk) r1
  have hQ : ∀ x, x ≠ 10 → Q2 x = Q x := fun x hx => (t2 x hx).trans (r2 x hx)
  have e5 : f_X6_begin Q = some Q2 := by
    unfold f_X6_begin
    simp (disch := omega) only [qn0, qn1, qn2, qn3, qn4, qn5, qn6, qn7, qn8, qn9, qn10, qn11, qn12, qn13, qn14, qn15, qn16, qn17, qn18, qn24, qn30, qn31, qn32, qn33, qn36, qn38, qn40, qn41, qn42, qn43, qn45, qn47, qn48, qn49, qn50, qn51, qn52, qn53, qn57, qn58, qn59, qn60, qn61, qn62, qn63, qn91, qn93, qn97, qn99, qn100, qn103, qn104, qn112, qn113, qn115, qn116, qn118, qn119, qn121, qn124, qn173, qn177, qn240, qn255, qn295, qn352, qn353, qn533, qn999, qn1000, qn1023, qn6561, qn10000, qn20787, qn1000000, qn252645135, qn858993459, qn1000000000, qn1431655765, q_s1, q_s2, q_s3, q_s4, q_s5, iI_add, iI_sub, iI_mul, iI_neg, q_lt, q_le, q_eq, qz0, qz1, qz2, qz3, if_pos, if_neg, reduceIte, e3, e4]
  have e6 : gs_up (gs_up (gs_up Q2 13 2 (iI 0)) 134 7 (iI 0)) 0 14 (iI 0) 3 2 = iI (y.2.2.1 : Nat) := by
    rw [ma_row_ne _ _ _ _ _ (by decide), ma_row_ne _ _ _ _ _ (by decide), ma_row_ne _ _ _ _ _ (by decide), hQ 3 (by decide)]
    exact q1
  have e7 : gs_up (gs_up (gs_up Q2 13 2 (iI 0)) 134 7 (iI 0)) 0 14 (iI 0) 1 1 = iI (T 3 7) := by
    rw [ma_row_ne _ _ _ _ _ (by decide), ma_row_ne _ _ _ _ _ (by decide), ma_row_ne _ _ _ _ _ (by decide), hQ 1 (by decide), q4 1 1 (by decide) (by decide) (by decide), tp_m1, hX 1 (by decide) (by decide) (by decide)]
    exact C.ta
  have e8 := c_keep0 e7 (by omega)
  refine ⟨gs_up (gs_up (gs_up (gs_up Q2 13 2 (iI 0)) 134 7 (iI 0)) 0 14 (iI 0)) 1 1 (iI 0), ?_, fun x hx => ?_, ?_, B2, hp0, hcp⟩
  · unfold f_X11_text f_X11_settle f_X0_forget f_X1_forget f_X9_crowd
    simp (disch := omega) only [qn0, qn1, qn2, qn3, qn4, qn5, qn6, qn7, qn8, qn9, qn10, qn11, qn12, qn13, qn14, qn15, qn16, qn17, qn18, qn24, qn30, qn31, qn32, qn33, qn36, qn38, qn40, qn41, qn42, qn43, qn45, qn47, qn48, qn49, qn50, qn51, qn52, qn53, qn57, qn58, qn59, qn60, qn61, qn62, qn63, qn91, qn93, qn97, qn99, qn100, qn103, qn104, qn112, qn113, qn115, qn116, qn118, qn119, qn121, qn124, qn173, qn177, qn240, qn255, qn295, qn352, qn353, qn533, qn999, qn1000, qn1023, qn6561, qn10000, qn20787, qn1000000, qn252645135, qn858993459, qn1000000000, qn1431655765, q_s1, q_s2, q_s3, q_s4, q_s5, iI_add, iI_sub, iI_mul, iI_neg, q_lt, q_le, q_eq, qz0, qz1, qz2, qz3, if_pos, if_neg, reduceIte, e1, e2, e5, e6, e8]
  · funext z
    rw [ma_row_ne _ _ _ _ _ (by omega), ma_row_ne _ _ _ _ _ (by omega), ma_row_ne _ _ _ _ _ (by omega), ma_row_ne _ _ _ _ _ (by omega), hQ x (by omega), q4 x z (by omega) (by omega) (by omega), tp_mr (by omega), hX x (by omega) (by omega) (by omega)]
  · refine C.twx w (fun x z hx hs x1 x2 x3 x4 x5 x6 x7 x8 => ?_) ?_ (fun k hk => ?_) (fun k hk => ?_) ?_ (gs_up_eq _ _ _ _) ?_ ?_ (fun k hk => ?_) hp8
    · rw [ma_cell_ne _ _ _ _ _ _ x8, ma_cell_ne _ _ _ _ _ _ x7, ma_cell_ne _ _ _ _ _ _ x6, ma_cell_ne _ _ _ _ _ _ x5, hQ x x4, q4 x z x1 x2 x3]
      exact tw_X_co hX a (-1) x z hs
    · rw [ma_row_ne _ _ _ _ _ (by decide)]
      exact e6
    · rw [ma_row_ne _ _ _ _ _ (by decide), ma_row_ne _ _ _ _ _ (by decide), ma_row_ne _ _ _ _ _ (by decide), ma_row_ne _ _ _ _ _ (by decide), hQ 4 (by decide)]
      exact q2 k hk
    · rw [ma_row_ne _ _ _ _ _ (by decide), ma_row_ne _ _ _ _ _ (by decide), ma_row_ne _ _ _ _ _ (by decide), ma_row_ne _ _ _ _ _ (by decide), hQ 5 (by decide)]
      exact q3 k hk
    · rw [ma_row_ne _ _ _ _ _ (by decide), ma_row_ne _ _ _ _ _ (by decide), gs_up_eq]
    · rw [ma_row_ne _ _ _ _ _ (by decide), gs_up_eq]
    · rw [ma_row_ne _ _ _ _ _ (by decide), ma_row_ne _ _ _ _ _ (by decide), ma_row_ne _ _ _ _ _ (by decide), gs_up_eq]
    · rw [ma_row_ne _ _ _ _ _ (by decide), ma_row_ne _ _ _ _ _ (by decide), ma_row_ne _ _ _ _ _ (by decide), ma_row_ne _ _ _ _ _ (by decide)]
      exact t1 k hk
theorem m_setT (w : ma_wT T) (D : ma_M s T V M) (hr : tw_r (T 4) (T 3 7).toNat = .inr y) (hp8 : y.2.2.1 ≤ 8) : ∃ M2, f_X12_text M (iI 0) = some (iI (y.2.2.1 : Nat), M2) ∧ (∀ x, x ≤ 146 → M2 x = M x) ∧ ma_M (tw_s y.2.2.1 y.2.2.2.2) (tw_TT T y) V M2 := by
  have D0 := ma_D0 D w (iI 0)
  obtain ⟨N, a, e1, he, hv⟩ := m_fau0 w D0
  obtain ⟨g1, g2, g3, g4, g5⟩ := hv y hr
  have ef : tw_f (T 4) (T 3 7).toNat = -1 := by
    unfold tw_f
    rw [hr]
  rw [ef] at e1
  have hco : iv_co M (md_m N a (-1)) := (iv_co.rf.up (i := 147) (k := 0) (iI 0) rfl).tr (tw_Y_co he a (-1))
  obtain ⟨X, hX⟩ : ∃ X, X = gs_up (gs_up (md_m N a (-1)) 147 6 (iI 0)) 147 24 (iI (y.2.2.1 : Nat)) := ⟨_, rfl⟩
  have p25 : gs_up (md_m N a (-1)) 147 6 (iI 0) 147 25 = iI (y.2.2.1 : Nat) := by
    rw [ma_cell_ne _ _ _ _ _ _ (by decide)]
    exact g1
  obtain ⟨j1, Q1, e2, a1, a2⟩ := m_l214 (iI 0) (md_m N a (-1) 147 6) X
  obtain ⟨j2, Q2, e3, b1, b2⟩ := m_l239 (iI 0) (md_m N a (-1) 147 6) Q1
  obtain ⟨j3, Q3, e4, c1, c2⟩ := m_begin0 (iI 0) (md_m N a (-1) 147 6) Q2
  have h24 : Q3 147 24 = iI (y.2.2.1 : Nat) := by rw [c2 147 (by decide), b2 147 (by decide), a2 147 (by decide), hX, gs_up_eq]
  have h152 : ∀ k, k < 3 → Q3 152 k = iI (y.2.2.2.1 k) := fun k hk => by
    rw [c2 152 (by decide), b2 152 (by decide), a1 k hk, hX, ma_row_ne _ _ _ _ _ (by decide), ma_row_ne _ _ _ _ _ (by decide), md_mr (by decide)]
    exact g3 k hk
  have h154 : ∀ k, k < 5 * y.2.2.1 → Q3 154 k = iI (y.2.2.2.2 k) := fun k hk => by
    rw [c2 154 (by decide), b1 k (by omega), a2 155 (by decide), hX, ma_row_ne _ _ _ _ _ (by decide), ma_row_ne _ _ _ _ _ (by decide), md_mr (by decide)]
    exact g4 k hk
  obtain ⟨j4, Q4, e5, d1, d2⟩ := m_begin1 (M := Q3) (iI 0) (md_m N a (-1) 147 6) hp8 h24 h154 c1
  have hQ : ∀ x, x ≠ 152 → x ≠ 154 → x ≠ 158 → Q4 x = X x := fun x h1 h2 h3 => by rw [d2 x h3, c2 x h3, b2 x h2, a2 x h1]
  have e6 : gs_up (gs_up (gs_up Q4 147 40 (iI 0)) 147 35 (iI 0)) 147 46 (iI 0) 147 24 = iI (y.2.2.1 : Nat) := by
    rw [ma_cell_ne _ _ _ _ _ _ (by decide), ma_cell_ne _ _ _ _ _ _ (by decide), ma_cell_ne _ _ _ _ _ _ (by decide), d2 147 (by decide)]
    exact h24
  rw [hX] at e2
  refine ⟨gs_up (gs_up (gs_up Q4 147 40 (iI 0)) 147 35 (iI 0)) 147 46 (iI 0), ?_, fun x hx => ?_, ?_⟩
  · unfold f_X12_text
    simp (disch := omega) only [qn0, qn1, qn2, qn3, qn4, qn5, qn6, qn7, qn8, qn9, qn10, qn11, qn12, qn13, qn14, qn15, qn16, qn17, qn18, qn24, qn30, qn31, qn32, qn33, qn36, qn38, qn40, qn41, qn42, qn43, qn45, qn47, qn48, qn49, qn50, qn51, qn52, qn53, qn57, qn58, qn59, qn60, qn61, qn62, qn63, qn91, qn93, qn97, qn99, qn100, qn103, qn104, qn112, qn113, qn115, qn116, qn118, qn119, qn121, qn124, qn173, qn177, qn240, qn255, qn295, qn352, qn353, qn533, qn999, qn1000, qn1023, qn6561, qn10000, qn20787, qn1000000, qn252645135, qn858993459, qn1000000000, qn1431655765, qj0, qj1, qj2, qj4, qj7, qj8, qj9, qj10, qj30, qj100, qj1000, qj1000000, qj1000000000, qj1442695040888963407, qj6364136223846793005, q_s1, q_s2, q_s3, q_s4, q_s5, iI_add, iI_sub, iI_mul, iI_neg, q_lt, q_le, q_eq, jI_add, jI_sub, jI_mul, jI_neg, jI_of, jI_to, j_le0, j_ge0, j_lt0, j_gt0, j_eq0, q_dvl, qz0, qz1, qz2, qz3, if_pos, if_neg, reduceIte, m_isIn, e1, p25, e2, e3, e4, e5, e6]
  · rw [ma_row_ne _ _ _ _ _ (by omega), ma_row_ne _ _ _ _ _ (by omega), ma_row_ne _ _ _ _ _ (by omega), hQ x (by omega) (by omega) (by omega), hX, ma_row_ne _ _ _ _ _ (by omega), ma_row_ne _ _ _ _ _ (by omega), md_mr (by omega), tw_Y_lo he hx, ma_row_ne _ _ _ _ _ (by omega)]
  · refine D.twx w (fun x z hx hs x1 x2 x3 x4 => ?_) e6 (fun k hk => ?_) (fun k hk => ?_) ?_ ?_ (gs_up_eq _ _ _ _) ?_ (fun k hk => ?_)
    · rw [ma_cell_ne _ _ _ _ _ _ (by omega), ma_cell_ne _ _ _ _ _ _ (by omega), ma_cell_ne _ _ _ _ _ _ (by omega), hQ x x1 x2 x3, hX, ma_cell_ne _ _ _ _ _ _ (by omega), ma_cell_ne _ _ _ _ _ _ (by omega)]
      exact hco x z hs
    · rw [ma_row_ne _ _ _ _ _ (by decide), ma_row_ne _ _ _ _ _ (by decide), ma_row_ne _ _ _ _ _ (by decide), d2 152 (by decide)]
      exact h152 k hk
    · rw [ma_row_ne _ _ _ _ _ (by decide), ma_row_ne _ _ _ _ _ (by decide), ma_row_ne _ _ _ _ _ (by decide), d2 154 (by decide)]
      exact h154 k hk
    · rw [ma_cell_ne _ _ _ _ _ _ (by decide), ma_cell_ne _ _ _ _ _ _ (by decide), gs_up_eq]
    · rw [ma_cell_ne _ _ _ _ _ _ (by decide), ma_cell_ne _ _ _ _ _ _ (by decide), ma_cell_ne _ _ _ _ _ _ (by decide), hQ 147 (by decide) (by decide) (by decide), hX, ma_cell_ne _ _ _ _ _ _ (by decide), gs_up_eq]
    · rw [ma_cell_ne _ _ _ _ _ _ (by decide), gs_up_eq]
    · rw [ma_row_ne _ _ _ _ _ (by decide), ma_row_ne _ _ _ _ _ (by decide), ma_row_ne _ _ _ _ _ (by decide)]
      exact d1 k hk
theorem x_town (W : ma_W s T V) (C : ma_C s T V M) (D : ma_M s T V M) : ∃ v M1 M2, f_X11_text M (iI 0) = some (v, M1) ∧ f_X12_text M1 (iI 0) = some (v, M2) ∧ ma_Inv M2 L := by
  have w := W.2.1
  have wb := tp_of w
  have w240 := wb.1
  match hr : tw_r (T 4) (T 3 7).toNat with
  | .inr y =>
    obtain ⟨M1, e1, h1, C1, B, hp, hcp⟩ := c_setT w C hr
    have D1 : ma_M s T V M1 := D.hi w (fun a b h _ => by rw [h1 a h])
    obtain ⟨M2, e2, h2, D2⟩ := m_setT w D1 hr B.2.2.2.1
    have w' := tw_TT_w w B hp hcp
    exact ⟨_, M1, M2, e1, e2, _, _, V, ⟨tw_s_w B.2.2.2.1 B.2.2.2.2.2, w', tw_TT_V W.2.2⟩, C1.lo w' (fun a b h _ => by rw [h2 a h]), D2⟩
  | .inl u =>
    obtain ⟨N, a, e1, hX, hu, -⟩ := c_town (tp_of w) (tp_ofC w C)
    have hu' := hu u hr
    have ef : tw_f (T 4) (T 3 7).toNat = (u : Int) := by
      unfold tw_f
      rw [hr]
    rw [ef] at e1
    have hco : iv_co M (tp_m N a u) := tw_X_co hX a u
    have D1 := ma_D0 (D.co w hco) w (iI 0)
    obtain ⟨N2, a2, e2, he, -⟩ := m_fau0 w D1
    rw [ef] at e2
    have hco2 := (hco.up (i := 147) (k := 0) (iI 0) rfl).tr (tw_Y_co he a2 u)
    refine ⟨iI (-1), tp_m N a u, md_m N2 a2 u, ?_, ?_, s, T, V, W, C.co w hco2, D.co w hco2⟩
    · unfold f_X11_text f_X11_settle
      simp (disch := omega) only [qn0, qn1, qn2, qn3, qn4, qn5, qn6, qn7, qn8, qn9, qn10, qn11, qn12, qn13, qn14, qn15, qn16, qn17, qn18, qn24, qn30, qn31, qn32, qn33, qn36, qn38, qn40, qn41, qn42, qn43, qn45, qn47, qn48, qn49, qn50, qn51, qn52, qn53, qn57, qn58, qn59, qn60, qn61, qn62, qn63, qn91, qn93, qn97, qn99, qn100, qn103, qn104, qn112, qn113, qn115, qn116, qn118, qn119, qn121, qn124, qn173, qn177, qn240, qn255, qn295, qn352, qn353, qn533, qn999, qn1000, qn1023, qn6561, qn10000, qn20787, qn1000000, qn252645135, qn858993459, qn1000000000, qn1431655765, q_s1, q_s2, q_s3, q_s4, q_s5, iI_add, iI_sub, iI_mul, iI_neg, q_lt, q_le, q_eq, qz0, qz1, qz2, qz3, if_pos, if_neg, reduceIte, e1]
    · unfold f_X12_text
      simp (disch := omega) only [qn0, qn1, qn2, qn3, qn4, qn5, qn6, qn7, qn8, qn9, qn10, qn11, qn12, qn13, qn14, qn15, qn16, qn17, qn18, qn24, qn30, qn31, qn32, qn33, qn36, qn38, qn40, qn41, qn42, qn43, qn45, qn47, qn48, qn49, qn50, qn51, qn52, qn53, qn57, qn58, qn59, qn60, qn61, qn62, qn63, qn91, qn93, qn97, qn99, qn100, qn103, qn104, qn112, qn113, qn115, qn116, qn118, qn119, qn121, qn124, qn173, qn177, qn240, qn255, qn295, qn352, qn353, qn533, qn999, qn1000, qn1023, qn6561, qn10000, qn20787, qn1000000, qn252645135, qn858993459, qn1000000000, qn1431655765, qj0, qj1, qj2, qj4, qj7, qj8, qj9, qj10, qj30, qj100, qj1000, qj1000000, qj1000000000, qj1442695040888963407, qj6364136223846793005, q_s1, q_s2, q_s3, q_s4, q_s5, iI_add, iI_sub, iI_mul, iI_neg, q_lt, q_le, q_eq, jI_add, jI_sub, jI_mul, jI_neg, jI_of, jI_to, j_le0, j_ge0, j_lt0, j_gt0, j_eq0, q_dvl, qz0, qz1, qz2, qz3, if_pos, if_neg, reduceIte, m_isIn, e2]
theorem x_fau0 (W : ma_W s T V) (C : ma_C s T V M) (D : ma_M s T V M) : ∃ v M1 M2, f_X11_fault M (iI 0) = some (v, M1) ∧ f_X12_fault M1 (iI 0) = some (v, M2) ∧ ma_Inv M2 L := by
  have w := W.2.1
  obtain ⟨N, a, e1, hX, -⟩ := c_town (tp_of w) (tp_ofC w C)
  have hco : iv_co M (tp_m N a (tw_f (T 4) (T 3 7).toNat)) := tw_X_co hX a _
  obtain ⟨N2, a2, e2, he, -⟩ := m_fau0 w (D.co w hco)
  have hco2 := hco.tr (tw_Y_co he a2 (tw_f (T 4) (T 3 7).toNat))
  refine ⟨iI (tw_f (T 4) (T 3 7).toNat), tp_m N a (tw_f (T 4) (T 3 7).toNat), md_m N2 a2 (tw_f (T 4) (T 3 7).toNat), ?_, e2, s, T, V, W, C.co w hco2, D.co w hco2⟩
  unfold f_X11_fault
  simp (disch := omega) only [qn0, qn1, qn2, qn3, qn4, qn5, qn6, qn7, qn8, qn9, qn10, qn11, qn12, qn13, qn14, qn15, qn16, qn17, qn18, qn24, qn30, qn31, qn32, qn33, qn36, qn38, qn40, qn41, qn42, qn43, qn45, qn47, qn48, qn49, qn50, qn51, qn52, qn53, qn57, qn58, qn59, qn60, qn61, qn62, qn63, qn91, qn93, qn97, qn99, qn100, qn103, qn104, qn112, qn113, qn115, qn116, qn118, qn119, qn121, qn124, qn173, qn177, qn240, qn255, qn295, qn352, qn353, qn533, qn999, qn1000, qn1023, qn6561, qn10000, qn20787, qn1000000, qn252645135, qn858993459, qn1000000000, qn1431655765, q_s1, q_s2, q_s3, q_s4, q_s5, iI_add, iI_sub, iI_mul, iI_neg, q_lt, q_le, q_eq, qz0, qz1, qz2, qz3, if_pos, if_neg, reduceIte, e1]
end TextT3
