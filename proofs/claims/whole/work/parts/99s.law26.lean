/-! a LAW taken, both; FAULT of a LAW; fault and text -/
theorem q_nar : ∀ z : Nat, z < 256 → vp_nar .byte ((iI z).toInt8.toInt32) = (iI z).toInt8.toInt32 := by decide +kernel
section Law26
variable {s : Nat → Int} {T : Nat → Nat → Int} {V : ma_V} {M M1 N : gs_M} {L : gs_L} {l : List lr_L} {K : Nat}
theorem lm_of (M : gs_M) : lm_e (lr_le (M 151 103).toInt (M 151 99).toInt (M 151 119).toInt (M 151 116).toInt (M 151 104).toInt (M 151 97).toInt) M := by
  have hb : ∀ x : Int32, -2147483648 ≤ x.toInt ∧ x.toInt ≤ 2147483647 := fun x => by
    have h1 := Int32.le_toInt x
    have h2 := Int32.toInt_lt x
    omega
  refine ⟨fun i hi => ?_, fun z hz => ?_⟩
  · match i, hi with
    | 0, _ => exact hb _
    | 1, _ => exact hb _
    | 2, _ => exact hb _
    | 3, _ => exact hb _
    | 4, _ => exact hb _
    | 5, _ => exact hb _
  · rcases lr_ix_c hz with rfl | rfl | rfl | rfl | rfl | rfl
    · exact iI_of _
    · exact iI_of _
    · exact iI_of _
    · exact iI_of _
    · exact iI_of _
    · exact iI_of _
theorem md_ofL (w : ma_wT T) (D : ma_M s T V M) : md_K 148 0 (T 4) (T 3 7).toNat (lm_0 M 148 (iI 0) (M 147 6) 121) := (md_ofM w D).up _ ⟨by decide, by decide, Or.inr ⟨by decide, by decide, by decide⟩⟩
/-- FAULT of a LAW: the model -/
theorem m_fau1 (w : ma_wT T) (D : ma_M s T V M) : (∀ u, lr_al (T 4) (T 3 7).toNat 242 0 [] = .inl u → u ≤ 240 ∧ ∃ M2, f_X12_fault M (iI 1) = some (iI (u : Nat), M2) ∧ iv_co M M2 ∧ ∀ x, x ≠ 147 → M2 x = M x) ∧ ∀ l, lr_al (T 4) (T 3 7).toNat 242 0 [] = .inr l → ∃ M2, f_X12_fault M (iI 1) = some (iI (-1), M2) ∧ iv_co M M2 ∧ ∀ x, x ≠ 147 → M2 x = M x := by
  have D0 := ma_D0 D w (iI 0)
  have wb := tp_of w
  have w1 := wb.1
  have h0 : iv_co M (gs_up M 147 0 (iI 0)) := iv_co.rf.up (i := 147) (k := 0) (iI 0) rfl
  obtain ⟨k1, k2⟩ := m_goT_2 wb (iI 0) (gs_up M 147 0 (iI 0) 147 6) (md_ofL w D0) (lm_of (gs_up M 147 0 (iI 0))) (Or.inl rfl)
  have hrow : ∀ (o : Option Int) (x : Int32) (a : Nat) (t : Int) (y : Nat), y ≠ 147 → lm_m (lm_c (lm_0 (gs_up M 147 0 (iI 0)) 148 (iI 0) (gs_up M 147 0 (iI 0) 147 6) 121) o) x a t y = M y := fun o x a t y hy => by
    rw [lm_r hy]
    unfold lm_c lm_0
    rw [ma_row_ne _ _ _ _ _ hy, ma_row_ne _ _ _ _ _ hy, ma_row_ne _ _ _ _ _ hy, ma_row_ne _ _ _ _ _ hy, ma_row_ne _ _ _ _ _ hy, ma_row_ne _ _ _ _ _ hy, ma_row_ne _ _ _ _ _ hy]
  refine ⟨fun u h => ?_, fun l h => ?_⟩
  · obtain ⟨hu, x, a', o', e1⟩ := k1 u h
    refine ⟨by omega, _, ?_, h0.tr (iv_lm _ _ _ _ _ o' x a' (u : Nat)).co, hrow _ _ _ _⟩
    unfold f_X12_fault
    simp (disch := omega) only [qn0, qn1, qn2, qn3, qn4, qn5, qn6, qn7, qn8, qn9, qn10, qn11, qn12, qn13, qn14, qn15, qn16, qn17, qn18, qn24, qn30, qn31, qn32, qn33, qn36, qn38, qn40, qn41, qn42, qn43, qn45, qn47, qn48, qn49, qn50, qn51, qn52, qn53, qn57, qn58, qn59, qn60, qn61, qn62, qn63, qn91, qn93, qn97, qn99, qn100, qn103, qn104, qn112, qn113, qn115, qn116, qn118, qn119, qn121, qn124, qn173, qn177, qn240, qn255, qn295, qn352, qn353, qn533, qn999, qn1000, qn1023, qn6561, qn10000, qn20787, qn1000000, qn252645135, qn858993459, qn1000000000, qn1431655765, qj0, qj1, qj2, qj4, qj7, qj8, qj9, qj10, qj30, qj100, qj1000, qj1000000, qj1000000000, qj1442695040888963407, qj6364136223846793005, q_s1, q_s2, q_s3, q_s4, q_s5, iI_add, iI_sub, iI_mul, iI_neg, q_lt, q_le, q_eq, jI_add, jI_sub, jI_mul, jI_neg, jI_of, jI_to, j_le0, j_ge0, j_lt0, j_gt0, j_eq0, q_dvl, qz0, qz1, qz2, qz3, if_pos, if_neg, reduceIte, m_isIn, e1, lm_11]
  · obtain ⟨a', e1⟩ := k2 l h
    refine ⟨_, ?_, h0.tr (iv_lm _ _ _ _ _ (lr_wf 121 (lr_le (gs_up M 147 0 (iI 0) 151 103).toInt (gs_up M 147 0 (iI 0) 151 99).toInt (gs_up M 147 0 (iI 0) 151 119).toInt (gs_up M 147 0 (iI 0) 151 116).toInt (gs_up M 147 0 (iI 0) 151 104).toInt (gs_up M 147 0 (iI 0) 151 97).toInt) l) (iI 0) a' (-1)).co, hrow _ _ _ _⟩
    unfold f_X12_fault
    simp (disch := omega) only [qn0, qn1, qn2, qn3, qn4, qn5, qn6, qn7, qn8, qn9, qn10, qn11, qn12, qn13, qn14, qn15, qn16, qn17, qn18, qn24, qn30, qn31, qn32, qn33, qn36, qn38, qn40, qn41, qn42, qn43, qn45, qn47, qn48, qn49, qn50, qn51, qn52, qn53, qn57, qn58, qn59, qn60, qn61, qn62, qn63, qn91, qn93, qn97, qn99, qn100, qn103, qn104, qn112, qn113, qn115, qn116, qn118, qn119, qn121, qn124, qn173, qn177, qn240, qn255, qn295, qn352, qn353, qn533, qn999, qn1000, qn1023, qn6561, qn10000, qn20787, qn1000000, qn252645135, qn858993459, qn1000000000, qn1431655765, qj0, qj1, qj2, qj4, qj7, qj8, qj9, qj10, qj30, qj100, qj1000, qj1000000, qj1000000000, qj1442695040888963407, qj6364136223846793005, q_s1, q_s2, q_s3, q_s4, q_s5, iI_add, iI_sub, iI_mul, iI_neg, q_lt, q_le, q_eq, jI_add, jI_sub, jI_mul, jI_neg, jI_of, jI_to, j_le0, j_ge0, j_lt0, j_gt0, j_eq0, q_dvl, qz0, qz1, qz2, qz3, if_pos, if_neg, reduceIte, m_isIn, e1, lm_11]
theorem x_fau1 (W : ma_W s T V) (C : ma_C s T V M) (D : ma_M s T V M) : ∃ v M1 M2, f_X11_fault M (iI 1) = some (v, M1) ∧ f_X12_fault M1 (iI 1) = some (v, M2) ∧ ma_Inv M2 L := by
  have w := W.2.1
  obtain ⟨N, a, hY, k1, k2⟩ := c_read (tp_of w) (r := 98) (Or.inl rfl) (tp_ofC w C)
  have hco : ∀ t : Int, iv_co M (tp_m N a t) := fun t => iv_tp (fun x y e => by
    simp only [iv_scr, Bool.or_eq_false_iff, Bool.and_eq_false_iff, beq_eq_false_iff_ne, decide_eq_false_iff_not] at e
    rw [hY x y (by omega) (by omega) (by omega) (by omega) (by omega), ma_row_ne _ _ _ _ _ (by omega)])
  match hR : lr_al (T 4) (T 3 7).toNat 242 0 [] with
  | .inl u =>
    have e1 := k1 u hR
    obtain ⟨hu, M2, e2, hc2, -⟩ := (m_fau1 w (D.co w (hco u))).1 u hR
    have hc3 := (hco u).tr hc2
    refine ⟨iI (u : Nat), tp_m N a u, M2, ?_, e2, s, T, V, W, C.co w hc3, D.co w hc3⟩
    unfold f_X11_fault
    simp (disch := omega) only [qn0, qn1, qn2, qn3, qn4, qn5, qn6, qn7, qn8, qn9, qn10, qn11, qn12, qn13, qn14, qn15, qn16, qn17, qn18, qn24, qn30, qn31, qn32, qn33, qn36, qn38, qn40, qn41, qn42, qn43, qn45, qn47, qn48, qn49, qn50, qn51, qn52, qn53, qn57, qn58, qn59, qn60, qn61, qn62, qn63, qn91, qn93, qn97, qn99, qn100, qn103, qn104, qn112, qn113, qn115, qn116, qn118, qn119, qn121, qn124, qn173, qn177, qn240, qn255, qn295, qn352, qn353, qn533, qn999, qn1000, qn1023, qn6561, qn10000, qn20787, qn1000000, qn252645135, qn858993459, qn1000000000, qn1431655765, q_s1, q_s2, q_s3, q_s4, q_s5, iI_add, iI_sub, iI_mul, iI_neg, q_lt, q_le, q_eq, qz0, qz1, qz2, qz3, if_pos, if_neg, reduceIte, e1]
  | .inr l =>
    obtain ⟨-, -, e1⟩ := k2 l hR
    obtain ⟨M2, e2, hc2, -⟩ := (m_fau1 w (D.co w (hco (-1)))).2 l hR
    have hc3 := (hco (-1)).tr hc2
    refine ⟨iI (-1), tp_m N a (-1), M2, ?_, e2, s, T, V, W, C.co w hc3, D.co w hc3⟩
    unfold f_X11_fault
    simp (disch := omega) only [qn0, qn1, qn2, qn3, qn4, qn5, qn6, qn7, qn8, qn9, qn10, qn11, qn12, qn13, qn14, qn15, qn16, qn17, qn18, qn24, qn30, qn31, qn32, qn33, qn36, qn38, qn40, qn41, qn42, qn43, qn45, qn47, qn48, qn49, qn50, qn51, qn52, qn53, qn57, qn58, qn59, qn60, qn61, qn62, qn63, qn91, qn93, qn97, qn99, qn100, qn103, qn104, qn112, qn113, qn115, qn116, qn118, qn119, qn121, qn124, qn173, qn177, qn240, qn255, qn295, qn352, qn353, qn533, qn999, qn1000, qn1023, qn6561, qn10000, qn20787, qn1000000, qn252645135, qn858993459, qn1000000000, qn1431655765, q_s1, q_s2, q_s3, q_s4, q_s5, iI_add, iI_sub, iI_mul, iI_neg, q_lt, q_le, q_eq, qz0, qz1, qz2, qz3, if_pos, if_neg, reduceIte, e1]
theorem m_l71 {b : Nat → Int} {n : Nat} (wb : tp_w b n) {K : Nat} (hK : K < 4) (P : gs_M) (h : P 147 7 = iI (K : Int)) (hb : ∀ i, i < n → P 148 i = (iI (b i)).toInt8.toInt32) : ∃ j Q, l_X12_text_71 (iI 1) (iI (n : Int)) gs_FU (iI 0) P = some (j, Q) ∧ (∀ k, k < n → Q 149 (240 * K + k) = (iI (b k)).toInt8.toInt32) ∧ ∀ x y, (x ≠ 149 ∨ y < 240 * K) → Q x y = P x y := by
  have w1 := wb.1
  obtain ⟨r, e, N1, h1, h2, rfl⟩ := ma_up0 (fun f i (k : gs_M) => l_X12_text_71 (iI 1) (iI (n : Int)) f i k) n
    (fun i k => (∀ j, j < i → k 149 (240 * K + j) = (iI (b j)).toInt8.toInt32) ∧ ∀ x y, (x ≠ 149 ∨ y < 240 * K) → k x y = P x y)
    (fun r => ∃ Q, (∀ j, j < n → Q 149 (240 * K + j) = (iI (b j)).toInt8.toInt32) ∧ (∀ x y, (x ≠ 149 ∨ y < 240 * K) → Q x y = P x y) ∧ r = (iI (n : Nat), Q)) P (by omega) ⟨fun j hj => by omega, fun _ _ _ => rfl⟩
    (by
      rintro f i k hi ⟨h1, h2⟩
      left
      have hbi := wb.2 i hi
      have e1 : gs_rd k 148 240 (iI (i : Int)) = some ((iI (b i)).toInt8.toInt32) := by
        rw [q_rdn i rfl (by omega) (by decide), h2 _ _ (Or.inl (by decide)), hb i hi]
      have e2 : k 147 7 = iI (K : Int) := by rw [h2 _ _ (Or.inl (by decide))]; exact h
      have e3 : vp_nar .byte ((iI (b i)).toInt8.toInt32) = (iI (b i)).toInt8.toInt32 := by
        have := q_nar (b i).toNat (by omega)
        rw [show (((b i).toNat : Nat) : Int) = b i by omega] at this
        exact this
      have e4 : ∀ v, gs_wr k 149 960 (iI (240 * (K : Int) + i)) v = some (gs_up k 149 (240 * K + i) v) := fun v => by
        rw [q_wrn (240 * K + i) (by omega) (by omega) (by decide)]
      refine ⟨gs_up k 149 (240 * K + i) ((iI (b i)).toInt8.toInt32), ?_, fun j hj => ?_, fun x y hxy => ?_⟩
      · simp only [l_X12_text_71]
        simp (disch := omega) only [qn0, qn1, qn2, qn3, qn4, qn5, qn6, qn7, qn8, qn9, qn10, qn11, qn12, qn13, qn14, qn15, qn16, qn17, qn18, qn24, qn30, qn31, qn32, qn33, qn36, qn38, qn40, qn41, qn42, qn43, qn45, qn47, qn48, qn49, qn50, qn51, qn52, qn53, qn57, qn58, qn59, qn60, qn61, qn62, qn63, qn91, qn93, qn97, qn99, qn100, qn103, qn104, qn112, qn113, qn115, qn116, qn118, qn119, qn121, qn124, qn173, qn177, qn240, qn255, qn295, qn352, qn353, qn533, qn999, qn1000, qn1023, qn6561, qn10000, qn20787, qn1000000, qn252645135, qn858993459, qn1000000000, qn1431655765, q_s1, q_s2, q_s3, q_s4, q_s5, iI_add, iI_sub, iI_mul, iI_neg, q_lt, q_le, q_eq, qz0, qz1, qz2, qz3, if_pos, if_neg, reduceIte, e1, e2, e3, e4]
      · by_cases c : j = i
        · subst c
          rw [gs_up_eq]
        · rw [ma_cell_ne _ _ _ _ _ _ (by omega)]
          exact h1 j (by omega)
      · rw [ma_cell_ne _ _ _ _ _ _ (by omega)]
        exact h2 x y hxy)
    (by
      rintro f k ⟨h1, h2⟩
      refine ⟨_, ?_, k, h1, h2, rfl⟩
      simp only [l_X12_text_71]
      simp (disch := omega) only [qn0, qn1, qn2, qn3, qn4, qn5, qn6, qn7, qn8, qn9, qn10, qn11, qn12, qn13, qn14, qn15, qn16, qn17, qn18, qn24, qn30, qn31, qn32, qn33, qn36, qn38, qn40, qn41, qn42, qn43, qn45, qn47, qn48, qn49, qn50, qn51, qn52, qn53, qn57, qn58, qn59, qn60, qn61, qn62, qn63, qn91, qn93, qn97, qn99, qn100, qn103, qn104, qn112, qn113, qn115, qn116, qn118, qn119, qn121, qn124, qn173, qn177, qn240, qn255, qn295, qn352, qn353, qn533, qn999, qn1000, qn1023, qn6561, qn10000, qn20787, qn1000000, qn252645135, qn858993459, qn1000000000, qn1431655765, q_s1, q_s2, q_s3, q_s4, q_s5, iI_add, iI_sub, iI_mul, iI_neg, q_lt, q_le, q_eq, qz0, qz1, qz2, qz3, if_pos, if_neg, reduceIte])
  exact ⟨_, N1, e, h1, h2⟩
/-- the class takes a LAW -/
theorem c_addL (w : ma_wT T) (C : ma_C s T V M) (c : T 3 4 < 4) (hK : (K : Int) = T 3 4) (hal : lr_al (T 4) (T 3 7).toNat 242 0 [] = .inr l) : ∃ M1, f_X11_text M (iI 1) = some (iI (T 3 4 + 1 - 1), M1) ∧ (∀ x, 147 ≤ x → M1 x = M x) ∧ ma_C s (lw_T T) (lw_V V K l) M1 := by
  obtain ⟨f1, f2, f3, f4, f5, f6, f7, f8, f9, f10, f11, f12, -⟩ := id w
  have hr : lr_r (108 + 6 * K) := by
    unfold lr_r
    omega
  obtain ⟨N, a, hY, -, k2⟩ := c_read (tp_of w) hr (tp_ofC w C)
  obtain ⟨k3, k4, e1⟩ := k2 l hal
  have hg := lr_al_g (tp_of w) 242 0 [] l (by omega) (by show 0 ≤ 0; omega) (by show 4 * 0 ≤ 0; omega) (fun x hx => by cases hx) hal
  have w1 := (tp_of w).1
  have r105 : M 105 4 = iI (K : Int) := by rw [C.lm, hK]
  have hfr : ∀ x y, iv_scr x y = false → ¬ (108 + 6 * K ≤ x ∧ x < 113 + 6 * K) → N x y = M x y := fun x y e hx => by
    have hx104 : x ≠ 104 := by
      rintro rfl
      exact absurd e (by simp [iv_scr])
    rw [hY x y (by omega) (by omega) (by omega) (by omega) (by omega), ma_row_ne _ _ _ _ _ hx104]
  have n105 : tp_m N a (-1) 105 4 = iI (K : Int) := by
    rw [tp_mr (by decide), hfr 105 4 rfl (by omega), r105]
  have n11 : tp_m N a (-1) 1 1 = iI (T 3 7) := by
    rw [tp_m1, hfr 1 1 rfl (by omega), C.ta]
  have e2 := q_rdq (k := K) (by omega)
  have n11' : gs_up (tp_m N a (-1)) 105 4 (iI ((K : Int) + 1)) 1 1 = iI (T 3 7) := by
    rw [ma_row_ne _ _ _ _ _ (by decide)]
    exact n11
  have e4 := c_keep0 n11' (by omega)
  have e5 : gs_up (tp_m N a (-1)) 105 4 (iI ((K : Int) + 1)) 105 4 = iI ((K : Int) + 1) := gs_up_eq _ _ _ _
  have hT : T 3 4 + 1 - 1 = (K : Int) + 1 - 1 := by omega
  rw [hT]
  refine ⟨gs_up (gs_up (tp_m N a (-1)) 105 4 (iI ((K : Int) + 1))) 1 1 (iI 0), ?_, fun x hx => ?_, ?_⟩
  · unfold f_X11_text f_X11_enact f_X4_nextLaw f_X4_addNext f_X4_hasRoom
    simp (disch := omega) only [qn0, qn1, qn2, qn3, qn4, qn5, qn6, qn7, qn8, qn9, qn10, qn11, qn12, qn13, qn14, qn15, qn16, qn17, qn18, qn24, qn30, qn31, qn32, qn33, qn36, qn38, qn40, qn41, qn42, qn43, qn45, qn47, qn48, qn49, qn50, qn51, qn52, qn53, qn57, qn58, qn59, qn60, qn61, qn62, qn63, qn91, qn93, qn97, qn99, qn100, qn103, qn104, qn112, qn113, qn115, qn116, qn118, qn119, qn121, qn124, qn173, qn177, qn240, qn255, qn295, qn352, qn353, qn533, qn999, qn1000, qn1023, qn6561, qn10000, qn20787, qn1000000, qn252645135, qn858993459, qn1000000000, qn1431655765, q_s1, q_s2, q_s3, q_s4, q_s5, iI_add, iI_sub, iI_mul, iI_neg, q_lt, q_le, q_eq, qz0, qz1, qz2, qz3, if_pos, if_neg, reduceIte, r105, e2, e1, n105, e5, e4]
  · rw [ma_row_ne _ _ _ _ _ (by omega), ma_row_ne _ _ _ _ _ (by omega), tp_mr (by omega)]
    funext y
    rw [hY x y (by omega) (by omega) (by omega) (by omega) (by omega), ma_row_ne _ _ _ _ _ (by omega)]
  · refine C.ltx w hK (by omega) (fun x y hx hs x1 x2 x3 => ?_) ?_ (gs_up_eq _ _ _ _) (c_lawC (by omega) ?_ ?_ hg.2.2 (by omega) (by omega))
    · rw [ma_cell_ne _ _ _ _ _ _ x3, ma_cell_ne _ _ _ _ _ _ x2]
      unfold tp_m
      rw [ma_cell_ne _ _ _ _ _ _ (by rintro ⟨rfl, rfl⟩; exact absurd hs (by decide)), ma_cell_ne _ _ _ _ _ _ (by rintro ⟨rfl, rfl⟩; exact absurd hs (by decide))]
      exact hfr x y hs x1
    · rw [ma_row_ne _ _ _ _ _ (by decide), e5, hK]
    · have hrow : ∀ x, 108 ≤ x → gs_up (gs_up (tp_m N a (-1)) 105 4 (iI ((K : Int) + 1))) 1 1 (iI 0) x = N x := fun x hx => by
        rw [ma_row_ne _ _ _ _ _ (by omega), ma_row_ne _ _ _ _ _ (by omega), tp_mr (by omega)]
      refine ⟨?_, fun j hj => ?_⟩
      · rw [hrow _ (by omega)]
        exact k3.1
      · rw [hrow _ (by omega)]
        exact k3.2 j hj
    · have hrow : ∀ x, 108 ≤ x → gs_up (gs_up (tp_m N a (-1)) 105 4 (iI ((K : Int) + 1))) 1 1 (iI 0) x = N x := fun x hx => by
        rw [ma_row_ne _ _ _ _ _ (by omega), ma_row_ne _ _ _ _ _ (by omega), tp_mr (by omega)]
      refine ⟨?_, fun j x hx => ?_⟩
      · rw [hrow _ (by omega)]
        exact k4.1
      · rw [hrow _ (by omega), hrow _ (by omega), hrow _ (by omega)]
        exact k4.2 j x hx
/-- the model takes a LAW -/
theorem m_addL (w : ma_wT T) (D : ma_M s T V M) (c : T 3 4 < 4) (hK : (K : Int) = T 3 4) (hal : lr_al (T 4) (T 3 7).toNat 242 0 [] = .inr l) : ∃ M2, f_X12_text M (iI 1) = some (iI (T 3 4 + 1 - 1), M2) ∧ (∀ x, x ≤ 146 → M2 x = M x) ∧ ma_M s (lw_T T) (lw_V V K l) M2 := by
  obtain ⟨f1, f2, f3, f4, f5, f6, f7, f8, f9, f10, f11, f12, -⟩ := id w
  have D0 := ma_D0 D w (iI 0)
  obtain ⟨P, e1, hc, hrow⟩ := (m_fau1 w D0).2 l hal
  have hco : iv_co M P := (iv_co.rf.up (i := 147) (k := 0) (iI 0) rfl).tr hc
  have hrow' : ∀ x, x ≠ 147 → P x = M x := fun x hx => by rw [hrow x hx, ma_row_ne _ _ _ _ _ hx]
  have r7 : gs_up M 147 0 (iI 0) 147 7 = iI (K : Int) := by rw [D0.lm, hK]
  have p6 : P 147 6 = iI ((T 3 7).toNat : Nat) := by
    rw [hco 147 6 rfl, D.ta]
    congr 1
    omega
  have p7 : gs_up P 147 6 (iI 0) 147 7 = iI (K : Int) := by
    rw [ma_cell_ne _ _ _ _ _ _ (by decide), hco 147 7 rfl, D.lm, hK]
  obtain ⟨j, Q, e2, q1, q2⟩ := m_l71 (tp_of w) (K := K) (by omega) (gs_up P 147 6 (iI 0)) p7 (fun i hi => by
    rw [ma_row_ne _ _ _ _ _ (by decide), hrow' 148 (by decide)]
    exact D.by (by omega))
  have q7 : Q 147 7 = iI (K : Int) := by rw [q2 _ _ (Or.inl (by decide))]; exact p7
  have e4 : gs_wr Q 150 4 (iI (K : Int)) (iI ((T 3 7).toNat : Nat)) = some (gs_up Q 150 K (iI ((T 3 7).toNat : Nat))) := q_wrn K rfl (by omega) (by decide)
  have e5 : gs_up Q 150 K (iI ((T 3 7).toNat : Nat)) 147 7 = iI (K : Int) := by rw [ma_row_ne _ _ _ _ _ (by decide)]; exact q7
  have e6 : gs_up (gs_up Q 150 K (iI ((T 3 7).toNat : Nat))) 147 7 (iI ((K : Int) + 1)) 147 7 = iI ((K : Int) + 1) := gs_up_eq _ _ _ _
  have hT : T 3 4 + 1 - 1 = (K : Int) + 1 - 1 := by omega
  rw [hT]
  refine ⟨gs_up (gs_up Q 150 K (iI ((T 3 7).toNat : Nat))) 147 7 (iI ((K : Int) + 1)), ?_, fun x hx => ?_, ?_⟩
  · unfold f_X12_text
    simp (disch := omega) only [qn0, qn1, qn2, qn3, qn4, qn5, qn6, qn7, qn8, qn9, qn10, qn11, qn12, qn13, qn14, qn15, qn16, qn17, qn18, qn24, qn30, qn31, qn32, qn33, qn36, qn38, qn40, qn41, qn42, qn43, qn45, qn47, qn48, qn49, qn50, qn51, qn52, qn53, qn57, qn58, qn59, qn60, qn61, qn62, qn63, qn91, qn93, qn97, qn99, qn100, qn103, qn104, qn112, qn113, qn115, qn116, qn118, qn119, qn121, qn124, qn173, qn177, qn240, qn255, qn295, qn352, qn353, qn533, qn999, qn1000, qn1023, qn6561, qn10000, qn20787, qn1000000, qn252645135, qn858993459, qn1000000000, qn1431655765, qj0, qj1, qj2, qj4, qj7, qj8, qj9, qj10, qj30, qj100, qj1000, qj1000000, qj1000000000, qj1442695040888963407, qj6364136223846793005, q_s1, q_s2, q_s3, q_s4, q_s5, iI_add, iI_sub, iI_mul, iI_neg, q_lt, q_le, q_eq, jI_add, jI_sub, jI_mul, jI_neg, jI_of, jI_to, j_le0, j_ge0, j_lt0, j_gt0, j_eq0, q_dvl, qz0, qz1, qz2, qz3, if_pos, if_neg, reduceIte, m_isIn, r7, e1, p6, e2, q7, e4, e5, e6]
  · funext y
    rw [ma_row_ne _ _ _ _ _ (by omega), ma_row_ne _ _ _ _ _ (by omega), q2 x y (Or.inl (by omega)), ma_row_ne _ _ _ _ _ (by omega), hrow' x (by omega)]
  · refine D.ltx w hK (fun x y hx hs x1 x2 x3 => ?_) ?_ ?_ (fun y hy => ?_) (fun y hy => ?_) (m_lawM (tp_of w) (by omega) (fun i hi => ?_) ?_ hal)
    · rw [ma_cell_ne _ _ _ _ _ _ (by omega), ma_row_ne _ _ _ _ _ x2, q2 x y (Or.inl x1), ma_cell_ne _ _ _ _ _ _ (by omega)]
      exact hco x y hs
    · rw [e6, hK]
    · rw [ma_cell_ne _ _ _ _ _ _ (by decide), ma_row_ne _ _ _ _ _ (by decide), q2 _ _ (Or.inl (by decide)), gs_up_eq]
    · rw [ma_row_ne _ _ _ _ _ (by decide), ma_row_ne _ _ _ _ _ (by decide), q2 _ _ (Or.inr hy), ma_row_ne _ _ _ _ _ (by decide), hrow' 149 (by decide)]
    · rw [ma_row_ne _ _ _ _ _ (by decide), ma_cell_ne _ _ _ _ _ _ (by omega), q2 _ _ (Or.inl (by decide)), ma_row_ne _ _ _ _ _ (by decide), hrow' 150 (by decide)]
    · rw [ma_row_ne _ _ _ _ _ (by decide), ma_row_ne _ _ _ _ _ (by decide)]
      exact q1 i hi
    · rw [ma_row_ne _ _ _ _ _ (by decide), gs_up_eq]
theorem x_law (W : ma_W s T V) (C : ma_C s T V M) (D : ma_M s T V M) : ∃ v M1 M2, f_X11_text M (iI 1) = some (v, M1) ∧ f_X12_text M1 (iI 1) = some (v, M2) ∧ ma_Inv M2 L := by
  have w := W.2.1
  obtain ⟨f1, f2, f3, f4, f5, f6, f7, f8, f9, f10, f11, f12, -⟩ := id w
  have D0 := ma_D0 D w (iI 0)
  have r0 := C.lm
  by_cases c : T 3 4 < 4
  · obtain ⟨K, hK⟩ : ∃ K : Nat, (K : Int) = T 3 4 := ⟨(T 3 4).toNat, by omega⟩
    match hR : lr_al (T 4) (T 3 7).toNat 242 0 [] with
    | .inr l =>
      obtain ⟨M1, e1, h1, C1⟩ := c_addL w C c hK hR
      have D1 : ma_M s T V M1 := D.hi w (fun a b h _ => by rw [h1 a h])
      obtain ⟨M2, e2, h2, D2⟩ := m_addL w D1 c hK hR
      have hg := lr_al_g (tp_of w) 242 0 [] l (by omega) (by show 0 ≤ 0; omega) (by show 4 * 0 ≤ 0; omega) (fun x hx => by cases hx) hR
      have w' := lw_T_w w c
      exact ⟨_, M1, M2, e1, e2, s, _, _, ⟨W.1, w', lw_T_V W.2.2 hK hg.2.2⟩, C1.lo w' (fun a b h _ => by rw [h2 a h]), D2⟩
    | .inl u =>
      have hr : lr_r (108 + 6 * K) := by
        unfold lr_r
        omega
      obtain ⟨N, a, hY, k1, -⟩ := c_read (tp_of w) hr (tp_ofC w C)
      have e1 := k1 u hR
      have hfr : ∀ x y, iv_scr x y = false → ¬ (108 + 6 * K ≤ x ∧ x < 113 + 6 * K) → tp_m N a u x y = M x y := fun x y e hx => by
        have hx104 : x ≠ 104 := by
          rintro rfl
          exact absurd e (by simp [iv_scr])
        unfold tp_m
        rw [ma_cell_ne _ _ _ _ _ _ (by rintro ⟨rfl, rfl⟩; exact absurd e (by decide)), ma_cell_ne _ _ _ _ _ _ (by rintro ⟨rfl, rfl⟩; exact absurd e (by decide)), hY x y (by omega) (by omega) (by omega) (by omega) (by omega), ma_row_ne _ _ _ _ _ hx104]
      have C1 : ma_C s T V (tp_m N a u) := C.lfx w hK (fun x y _ e hx => hfr x y e hx) (by omega)
      have D1 : ma_M s T V (tp_m N a u) := D.hi w (fun x y h e => hfr x y e (by omega))
      have D2 := ma_D0 D1 w (iI 0)
      obtain ⟨hu, M2, e2, hc, -⟩ := (m_fau1 w D2).1 u hR
      have hc2 := (iv_co.rf.up (i := 147) (k := 0) (iI 0) rfl).tr hc
      have r7 : gs_up (tp_m N a u) 147 0 (iI 0) 147 7 = iI (K : Int) := by rw [D2.lm, hK]
      rw [← hK] at r0
      have e3 := q_rdq (k := K) (by omega)
      refine ⟨iI (-1), tp_m N a u, M2, ?_, ?_, s, T, V, W, C1.co w hc2, D1.co w hc2⟩
      · unfold f_X11_text f_X11_enact f_X4_nextLaw f_X4_hasRoom
        simp (disch := omega) only [qn0, qn1, qn2, qn3, qn4, qn5, qn6, qn7, qn8, qn9, qn10, qn11, qn12, qn13, qn14, qn15, qn16, qn17, qn18, qn24, qn30, qn31, qn32, qn33, qn36, qn38, qn40, qn41, qn42, qn43, qn45, qn47, qn48, qn49, qn50, qn51, qn52, qn53, qn57, qn58, qn59, qn60, qn61, qn62, qn63, qn91, qn93, qn97, qn99, qn100, qn103, qn104, qn112, qn113, qn115, qn116, qn118, qn119, qn121, qn124, qn173, qn177, qn240, qn255, qn295, qn352, qn353, qn533, qn999, qn1000, qn1023, qn6561, qn10000, qn20787, qn1000000, qn252645135, qn858993459, qn1000000000, qn1431655765, q_s1, q_s2, q_s3, q_s4, q_s5, iI_add, iI_sub, iI_mul, iI_neg, q_lt, q_le, q_eq, qz0, qz1, qz2, qz3, if_pos, if_neg, reduceIte, r0, e3, e1]
      · unfold f_X12_text
        simp (disch := omega) only [qn0, qn1, qn2, qn3, qn4, qn5, qn6, qn7, qn8, qn9, qn10, qn11, qn12, qn13, qn14, qn15, qn16, qn17, qn18, qn24, qn30, qn31, qn32, qn33, qn36, qn38, qn40, qn41, qn42, qn43, qn45, qn47, qn48, qn49, qn50, qn51, qn52, qn53, qn57, qn58, qn59, qn60, qn61, qn62, qn63, qn91, qn93, qn97, qn99, qn100, qn103, qn104, qn112, qn113, qn115, qn116, qn118, qn119, qn121, qn124, qn173, qn177, qn240, qn255, qn295, qn352, qn353, qn533, qn999, qn1000, qn1023, qn6561, qn10000, qn20787, qn1000000, qn252645135, qn858993459, qn1000000000, qn1431655765, qj0, qj1, qj2, qj4, qj7, qj8, qj9, qj10, qj30, qj100, qj1000, qj1000000, qj1000000000, qj1442695040888963407, qj6364136223846793005, q_s1, q_s2, q_s3, q_s4, q_s5, iI_add, iI_sub, iI_mul, iI_neg, q_lt, q_le, q_eq, jI_add, jI_sub, jI_mul, jI_neg, jI_of, jI_to, j_le0, j_ge0, j_lt0, j_gt0, j_eq0, q_dvl, qz0, qz1, qz2, qz3, if_pos, if_neg, reduceIte, m_isIn, r7, e2]
  · have c4 : T 3 4 = 4 := by omega
    have r1 := D0.lm
    rw [c4] at r0 r1
    refine ⟨iI (-1), M, gs_up M 147 0 (iI 0), ?_, ?_, s, T, V, W, C.lo w (iv_lo.rf.up (i := 147) (k := 0) (iI 0) (by decide)), D0⟩
    · unfold f_X11_text f_X11_enact f_X4_hasRoom
      simp (disch := omega) only [qn0, qn1, qn2, qn3, qn4, qn5, qn6, qn7, qn8, qn9, qn10, qn11, qn12, qn13, qn14, qn15, qn16, qn17, qn18, qn24, qn30, qn31, qn32, qn33, qn36, qn38, qn40, qn41, qn42, qn43, qn45, qn47, qn48, qn49, qn50, qn51, qn52, qn53, qn57, qn58, qn59, qn60, qn61, qn62, qn63, qn91, qn93, qn97, qn99, qn100, qn103, qn104, qn112, qn113, qn115, qn116, qn118, qn119, qn121, qn124, qn173, qn177, qn240, qn255, qn295, qn352, qn353, qn533, qn999, qn1000, qn1023, qn6561, qn10000, qn20787, qn1000000, qn252645135, qn858993459, qn1000000000, qn1431655765, q_s1, q_s2, q_s3, q_s4, q_s5, iI_add, iI_sub, iI_mul, iI_neg, q_lt, q_le, q_eq, qz0, qz1, qz2, qz3, if_pos, if_neg, reduceIte, r0]
    · unfold f_X12_text
      simp (disch := omega) only [qn0, qn1, qn2, qn3, qn4, qn5, qn6, qn7, qn8, qn9, qn10, qn11, qn12, qn13, qn14, qn15, qn16, qn17, qn18, qn24, qn30, qn31, qn32, qn33, qn36, qn38, qn40, qn41, qn42, qn43, qn45, qn47, qn48, qn49, qn50, qn51, qn52, qn53, qn57, qn58, qn59, qn60, qn61, qn62, qn63, qn91, qn93, qn97, qn99, qn100, qn103, qn104, qn112, qn113, qn115, qn116, qn118, qn119, qn121, qn124, qn173, qn177, qn240, qn255, qn295, qn352, qn353, qn533, qn999, qn1000, qn1023, qn6561, qn10000, qn20787, qn1000000, qn252645135, qn858993459, qn1000000000, qn1431655765, qj0, qj1, qj2, qj4, qj7, qj8, qj9, qj10, qj30, qj100, qj1000, qj1000000, qj1000000000, qj1442695040888963407, qj6364136223846793005, q_s1, q_s2, q_s3, q_s4, q_s5, iI_add, iI_sub, iI_mul, iI_neg, q_lt, q_le, q_eq, jI_add, jI_sub, jI_mul, jI_neg, jI_of, jI_to, j_le0, j_ge0, j_lt0, j_gt0, j_eq0, q_dvl, qz0, qz1, qz2, qz3, if_pos, if_neg, reduceIte, m_isIn, r1]
end Law26
theorem s_fault : gl_S_fault ma_Inv := by
  intro M L hI x1
  have hI0 := hI
  obtain ⟨s, T, V, W, C, D⟩ := hI
  obtain ⟨z, z1, z2, rfl⟩ := q_any x1
  by_cases c0 : z = 0
  · subst c0
    exact x_fau0 W C D
  by_cases c1 : z = 1
  · subst c1
    exact x_fau1 W C D
  by_cases c2 : z = 2
  · subst c2
    exact x_fau2 W C D
  refine ⟨iI (-2), M, gs_up M 147 0 (iI 0), ?_, ?_, hI0.ag (ma_g0 iv_ag.rf _)⟩
  · unfold f_X11_fault
    simp (disch := omega) only [qn0, qn1, qn2, qn3, qn4, qn5, qn6, qn7, qn8, qn9, qn10, qn11, qn12, qn13, qn14, qn15, qn16, qn17, qn18, qn24, qn30, qn31, qn32, qn33, qn36, qn38, qn40, qn41, qn42, qn43, qn45, qn47, qn48, qn49, qn50, qn51, qn52, qn53, qn57, qn58, qn59, qn60, qn61, qn62, qn63, qn91, qn93, qn97, qn99, qn100, qn103, qn104, qn112, qn113, qn115, qn116, qn118, qn119, qn121, qn124, qn173, qn177, qn240, qn255, qn295, qn352, qn353, qn533, qn999, qn1000, qn1023, qn6561, qn10000, qn20787, qn1000000, qn252645135, qn858993459, qn1000000000, qn1431655765, q_s1, q_s2, q_s3, q_s4, q_s5, iI_add, iI_sub, iI_mul, iI_neg, q_lt, q_le, q_eq, qz0, qz1, qz2, qz3, if_pos, if_neg, reduceIte]
  · unfold f_X12_fault
    simp (disch := omega) only [qn0, qn1, qn2, qn3, qn4, qn5, qn6, qn7, qn8, qn9, qn10, qn11, qn12, qn13, qn14, qn15, qn16, qn17, qn18, qn24, qn30, qn31, qn32, qn33, qn36, qn38, qn40, qn41, qn42, qn43, qn45, qn47, qn48, qn49, qn50, qn51, qn52, qn53, qn57, qn58, qn59, qn60, qn61, qn62, qn63, qn91, qn93, qn97, qn99, qn100, qn103, qn104, qn112, qn113, qn115, qn116, qn118, qn119, qn121, qn124, qn173, qn177, qn240, qn255, qn295, qn352, qn353, qn533, qn999, qn1000, qn1023, qn6561, qn10000, qn20787, qn1000000, qn252645135, qn858993459, qn1000000000, qn1431655765, qj0, qj1, qj2, qj4, qj7, qj8, qj9, qj10, qj30, qj100, qj1000, qj1000000, qj1000000000, qj1442695040888963407, qj6364136223846793005, q_s1, q_s2, q_s3, q_s4, q_s5, iI_add, iI_sub, iI_mul, iI_neg, q_lt, q_le, q_eq, jI_add, jI_sub, jI_mul, jI_neg, jI_of, jI_to, j_le0, j_ge0, j_lt0, j_gt0, j_eq0, q_dvl, qz0, qz1, qz2, qz3, if_pos, if_neg, reduceIte, m_isOut]
theorem s_text : gl_S_text ma_Inv := by
  intro M L hI x1
  have hI0 := hI
  obtain ⟨s, T, V, W, C, D⟩ := hI
  obtain ⟨z, z1, z2, rfl⟩ := q_any x1
  by_cases c0 : z = 0
  · subst c0
    exact x_town W C D
  by_cases c1 : z = 1
  · subst c1
    exact x_law W C D
  by_cases c2 : z = 2
  · subst c2
    exact x_watch W C D
  refine ⟨iI (-1), M, gs_up M 147 0 (iI 0), ?_, ?_, hI0.ag (ma_g0 iv_ag.rf _)⟩
  · unfold f_X11_text
    simp (disch := omega) only [qn0, qn1, qn2, qn3, qn4, qn5, qn6, qn7, qn8, qn9, qn10, qn11, qn12, qn13, qn14, qn15, qn16, qn17, qn18, qn24, qn30, qn31, qn32, qn33, qn36, qn38, qn40, qn41, qn42, qn43, qn45, qn47, qn48, qn49, qn50, qn51, qn52, qn53, qn57, qn58, qn59, qn60, qn61, qn62, qn63, qn91, qn93, qn97, qn99, qn100, qn103, qn104, qn112, qn113, qn115, qn116, qn118, qn119, qn121, qn124, qn173, qn177, qn240, qn255, qn295, qn352, qn353, qn533, qn999, qn1000, qn1023, qn6561, qn10000, qn20787, qn1000000, qn252645135, qn858993459, qn1000000000, qn1431655765, q_s1, q_s2, q_s3, q_s4, q_s5, iI_add, iI_sub, iI_mul, iI_neg, q_lt, q_le, q_eq, qz0, qz1, qz2, qz3, if_pos, if_neg, reduceIte]
  · unfold f_X12_text
    simp (disch := omega) only [qn0, qn1, qn2, qn3, qn4, qn5, qn6, qn7, qn8, qn9, qn10, qn11, qn12, qn13, qn14, qn15, qn16, qn17, qn18, qn24, qn30, qn31, qn32, qn33, qn36, qn38, qn40, qn41, qn42, qn43, qn45, qn47, qn48, qn49, qn50, qn51, qn52, qn53, qn57, qn58, qn59, qn60, qn61, qn62, qn63, qn91, qn93, qn97, qn99, qn100, qn103, qn104, qn112, qn113, qn115, qn116, qn118, qn119, qn121, qn124, qn173, qn177, qn240, qn255, qn295, qn352, qn353, qn533, qn999, qn1000, qn1023, qn6561, qn10000, qn20787, qn1000000, qn252645135, qn858993459, qn1000000000, qn1431655765, qj0, qj1, qj2, qj4, qj7, qj8, qj9, qj10, qj30, qj100, qj1000, qj1000000, qj1000000000, qj1442695040888963407, qj6364136223846793005, q_s1, q_s2, q_s3, q_s4, q_s5, iI_add, iI_sub, iI_mul, iI_neg, q_lt, q_le, q_eq, jI_add, jI_sub, jI_mul, jI_neg, jI_of, jI_to, j_le0, j_ge0, j_lt0, j_gt0, j_eq0, q_dvl, qz0, qz1, qz2, qz3, if_pos, if_neg, reduceIte, m_isOut]
