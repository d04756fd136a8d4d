/-! one NIGHT; YEARS -/
section Years
variable {s : Nat → Int} {T : Nat → Nat → Int} {V : ma_V} {M : gs_M}
theorem c_p2 (M : gs_M) (L : gs_L) : ∃ N, l_X5_pass_2 L gs_FU (iI 0) M = some (iI 8, N) ∧ (∀ j, j < 8 → N 133 j = iI 0) ∧ ∀ r, r ≠ 133 → N r = M r := by
  obtain ⟨r, e, N, rfl, h1, h2⟩ := ma_up0 (fun f i (k : gs_M) => l_X5_pass_2 L f i k) 8
    (fun i k => (∀ j, j < i → k 133 j = iI 0) ∧ ∀ r, r ≠ 133 → k r = M r)
    (fun r => ∃ N, r = (iI (8 : Nat), N) ∧ (∀ j, j < 8 → N 133 j = iI 0) ∧ ∀ r, r ≠ 133 → N r = M r) M (by decide) ⟨fun j hj => by omega, fun _ _ => rfl⟩
    (by
      rintro f i k hi ⟨h1, h2⟩
      left
      have e4 : ∀ v, gs_wr k 133 8 (iI i) v = some (gs_up k 133 i v) := fun v => q_wrn i rfl hi (by decide)
      refine ⟨gs_up k 133 i (iI 0), ?_, fun j hj => ?_, fun r hr => by rw [ma_row_ne _ _ _ _ _ hr, h2 r hr]⟩
      · simp only [l_X5_pass_2]
        simp (disch := omega) only [qn0, qn1, qn2, qn3, qn4, qn5, qn6, qn7, qn8, qn9, qn10, qn11, qn12, qn13, qn14, qn15, qn16, qn17, qn18, qn24, qn30, qn31, qn32, qn33, qn36, qn38, qn40, qn41, qn42, qn43, qn45, qn47, qn48, qn49, qn50, qn51, qn52, qn53, qn57, qn58, qn59, qn60, qn61, qn62, qn63, qn91, qn93, qn97, qn99, qn100, qn103, qn104, qn112, qn113, qn115, qn116, qn118, qn119, qn121, qn124, qn173, qn177, qn240, qn255, qn295, qn352, qn353, qn533, qn999, qn1000, qn1023, qn6561, qn10000, qn20787, qn1000000, qn252645135, qn858993459, qn1000000000, qn1431655765, q_s1, q_s2, q_s3, q_s4, q_s5, iI_add, iI_sub, iI_mul, iI_neg, q_lt, q_le, q_eq, qz0, qz1, qz2, qz3, if_pos, if_neg, reduceIte, e4]
      · by_cases c : j = i
        · subst c
          rw [gs_up_eq]
        · rw [ma_cell_ne _ _ _ _ _ _ (by omega)]
          exact h1 j (by omega))
    (by
      rintro f k ⟨h1, h2⟩
      refine ⟨_, ?_, k, rfl, h1, h2⟩
      simp only [l_X5_pass_2]
      simp (disch := omega) only [qn0, qn1, qn2, qn3, qn4, qn5, qn6, qn7, qn8, qn9, qn10, qn11, qn12, qn13, qn14, qn15, qn16, qn17, qn18, qn24, qn30, qn31, qn32, qn33, qn36, qn38, qn40, qn41, qn42, qn43, qn45, qn47, qn48, qn49, qn50, qn51, qn52, qn53, qn57, qn58, qn59, qn60, qn61, qn62, qn63, qn91, qn93, qn97, qn99, qn100, qn103, qn104, qn112, qn113, qn115, qn116, qn118, qn119, qn121, qn124, qn173, qn177, qn240, qn255, qn295, qn352, qn353, qn533, qn999, qn1000, qn1023, qn6561, qn10000, qn20787, qn1000000, qn252645135, qn858993459, qn1000000000, qn1431655765, q_s1, q_s2, q_s3, q_s4, q_s5, iI_add, iI_sub, iI_mul, iI_neg, q_lt, q_le, q_eq, qz0, qz1, qz2, qz3, if_pos, if_neg, reduceIte])
  exact ⟨N, e, h1, h2⟩
theorem m_p2 (w : ma_wT T) (D : ma_M s T V M) (L : gs_L) : ∃ N, l_X12_goNight_2 L gs_FU (iI 0) M = some (iI ((T 3 0).toNat : Nat), N) ∧ (∀ j : Nat, (j : Int) < T 3 0 → N 159 j = iI 0) ∧ ∀ r, r ≠ 159 → N r = M r := by
  have f1 := w.1
  obtain ⟨r, e, N, rfl, h1, h2⟩ := ma_up0 (fun f i (k : gs_M) => l_X12_goNight_2 L f i k) (T 3 0).toNat
    (fun i k => (∀ j, j < i → k 159 j = iI 0) ∧ ∀ r, r ≠ 159 → k r = M r)
    (fun r => ∃ N, r = (iI ((T 3 0).toNat : Nat), N) ∧ (∀ j : Nat, (j : Int) < T 3 0 → N 159 j = iI 0) ∧ ∀ r, r ≠ 159 → N r = M r) M (by omega) ⟨fun j hj => by omega, fun _ _ => rfl⟩
    (by
      rintro f i k hi ⟨h1, h2⟩
      left
      have e0 : k 147 24 = iI (T 3 0) := by rw [h2 147 (by decide)]; exact D.fo
      have e4 : ∀ v, gs_wr k 159 8 (iI i) v = some (gs_up k 159 i v) := fun v => q_wrn i rfl (by omega) (by decide)
      refine ⟨gs_up k 159 i (iI 0), ?_, fun j hj => ?_, fun r hr => by rw [ma_row_ne _ _ _ _ _ hr, h2 r hr]⟩
      · simp only [l_X12_goNight_2]
        simp (disch := omega) only [qn0, qn1, qn2, qn3, qn4, qn5, qn6, qn7, qn8, qn9, qn10, qn11, qn12, qn13, qn14, qn15, qn16, qn17, qn18, qn24, qn30, qn31, qn32, qn33, qn36, qn38, qn40, qn41, qn42, qn43, qn45, qn47, qn48, qn49, qn50, qn51, qn52, qn53, qn57, qn58, qn59, qn60, qn61, qn62, qn63, qn91, qn93, qn97, qn99, qn100, qn103, qn104, qn112, qn113, qn115, qn116, qn118, qn119, qn121, qn124, qn173, qn177, qn240, qn255, qn295, qn352, qn353, qn533, qn999, qn1000, qn1023, qn6561, qn10000, qn20787, qn1000000, qn252645135, qn858993459, qn1000000000, qn1431655765, q_s1, q_s2, q_s3, q_s4, q_s5, iI_add, iI_sub, iI_mul, iI_neg, q_lt, q_le, q_eq, qz0, qz1, qz2, qz3, if_pos, if_neg, reduceIte, e0, e4]
      · by_cases c : j = i
        · subst c
          rw [gs_up_eq]
        · rw [ma_cell_ne _ _ _ _ _ _ (by omega)]
          exact h1 j (by omega))
    (by
      rintro f k ⟨h1, h2⟩
      have e0 : k 147 24 = iI (T 3 0) := by rw [h2 147 (by decide)]; exact D.fo
      refine ⟨_, ?_, k, rfl, fun j hj => h1 j (by omega), h2⟩
      simp only [l_X12_goNight_2]
      simp (disch := omega) only [qn0, qn1, qn2, qn3, qn4, qn5, qn6, qn7, qn8, qn9, qn10, qn11, qn12, qn13, qn14, qn15, qn16, qn17, qn18, qn24, qn30, qn31, qn32, qn33, qn36, qn38, qn40, qn41, qn42, qn43, qn45, qn47, qn48, qn49, qn50, qn51, qn52, qn53, qn57, qn58, qn59, qn60, qn61, qn62, qn63, qn91, qn93, qn97, qn99, qn100, qn103, qn104, qn112, qn113, qn115, qn116, qn118, qn119, qn121, qn124, qn173, qn177, qn240, qn255, qn295, qn352, qn353, qn533, qn999, qn1000, qn1023, qn6561, qn10000, qn20787, qn1000000, qn252645135, qn858993459, qn1000000000, qn1431655765, q_s1, q_s2, q_s3, q_s4, q_s5, iI_add, iI_sub, iI_mul, iI_neg, q_lt, q_le, q_eq, qz0, qz1, qz2, qz3, if_pos, if_neg, reduceIte, e0])
  exact ⟨N, e, h1, h2⟩
theorem iv_scr_133 {M N : gs_M} (h : ∀ r, r ≠ 133 → N r = M r) : iv_co M N := fun a b e => by
  by_cases c : a = 133
  · subst c
    cases e
  · rw [h a c]
theorem iv_scr_159 {M N : gs_M} (h : ∀ r, r ≠ 159 → N r = M r) : iv_co M N := fun a b e => by
  by_cases c : a = 159
  · subst c
    cases e
  · rw [h a c]
theorem c_pass (W : ma_W s T V) (C : ma_C s T V M) (L : gs_L) : ∃ M1 L1, f_X5_pass M L = some (M1, L1) ∧ ma_C (ma_ng s T V (L 132 5)).1 T V M1 ∧ L1 132 5 = (ma_ng s T V (L 132 5)).2 ∧ iv_hi M M1 := by
  have w := W.2.1
  have f1 := W.2.1.1
  obtain ⟨N0, e0, h0, g0⟩ := c_p2 M L
  have C0 := C.co w (iv_scr_133 g0)
  obtain ⟨N1, L1, e1, C1, a1, x1, g1⟩ := c_nn (M := M) w W.2.2 (z := s 48) (q := (s, (fun _ => 0), L 132 5)) ⟨W.1, rfl, fun _ _ => by simp⟩ (N := N0) (L := L) ⟨C0, fun j hj => h0 j (by omega), rfl, (iv_scr_133 g0).hi⟩
  obtain ⟨q1, q2, q3⟩ := ma_ng_0 W (L 132 5)
  obtain ⟨N2, e2, C2, g2⟩ := c_fi w L1 (fun j hj => by have := q3 j hj; omega) C1 a1
  have hf := (ma_fi_ws q1 (fun j hj => (q3 j hj).1) (p := (T 3 0).toNat) (by omega)).2
  have e3 : gs_rd N2 10 173 (iI 48) = some (iI (s 48)) := by
    have := c_cell C2.st (k := 48) (by decide)
    rw [hf, q2] at this
    exact this
  have e4 : ∀ v, gs_wr N2 10 173 (iI 48) v = some (gs_up N2 10 48 v) := fun v => q_wrn (z := 48) 48 rfl (by decide) (by decide)
  refine ⟨gs_up N2 10 48 (iI (s 48 + 1)), L1, ?_, C2.su w (by decide) (s 48 + 1), x1, ?_⟩
  · unfold f_X5_pass f_X6_nextNight
    simp (disch := omega) only [qn0, qn1, qn2, qn3, qn4, qn5, qn6, qn7, qn8, qn9, qn10, qn11, qn12, qn13, qn14, qn15, qn16, qn17, qn18, qn24, qn30, qn31, qn32, qn33, qn36, qn38, qn40, qn41, qn42, qn43, qn45, qn47, qn48, qn49, qn50, qn51, qn52, qn53, qn57, qn58, qn59, qn60, qn61, qn62, qn63, qn91, qn93, qn97, qn99, qn100, qn103, qn104, qn112, qn113, qn115, qn116, qn118, qn119, qn121, qn124, qn173, qn177, qn240, qn255, qn295, qn352, qn353, qn533, qn999, qn1000, qn1023, qn6561, qn10000, qn20787, qn1000000, qn252645135, qn858993459, qn1000000000, qn1431655765, q_s1, q_s2, q_s3, q_s4, q_s5, iI_add, iI_sub, iI_mul, iI_neg, q_lt, q_le, q_eq, qz0, qz1, qz2, qz3, if_pos, if_neg, reduceIte, e0, e1, e2, e3, e4]
  · refine g1.tr (fun a b h1 _ => ?_)
    rw [ma_cell_ne _ _ _ _ _ _ (by omega), g2 a (by omega)]
theorem m_pass (W : ma_W s T V) (C : ma_M s T V M) (L : gs_L) : ∃ M1 L1, f_X12_goNight M L = some (M1, L1) ∧ ma_M (ma_ng s T V (L 147 32)).1 T V M1 ∧ L1 147 32 = (ma_ng s T V (L 147 32)).2 ∧ iv_lo M M1 := by
  have w := W.2.1
  have f1 := W.2.1.1
  obtain ⟨N0, e0, h0, g0⟩ := m_p2 w C L
  have C0 := C.co w (iv_scr_159 g0)
  obtain ⟨N1, L1, e1, C1, a1, x1, g1⟩ := m_nn (M := M) w W.2.2 (z := s 48) (q := (s, (fun _ => 0), L 147 32)) ⟨W.1, rfl, fun _ _ => by simp⟩ (N := N0) (L := L) ⟨C0, fun j hj => h0 j hj, rfl, (iv_scr_159 g0).lo⟩
  obtain ⟨q1, q2, q3⟩ := ma_ng_0 W (L 147 32)
  obtain ⟨N2, e2, C2, g2⟩ := m_fi w L1 (fun j hj => by have := q3 j hj; omega) C1 a1
  have hf := (ma_fi_ws q1 (fun j hj => (q3 j hj).1) (p := (T 3 0).toNat) (by omega)).2
  have e3 : gs_rd N2 158 533 (iI 48) = some (iI (s 48)) := by
    have := m_c48 C2.st
    rw [hf, q2] at this
    exact this
  have e4 : ∀ v, gs_wr N2 158 533 (iI 48) v = some (gs_up N2 158 48 v) := fun v => q_wrn (z := 48) 48 rfl (by decide) (by decide)
  refine ⟨gs_up N2 158 48 (iI (s 48 + 1)), L1, ?_, C2.su w 48 (s 48 + 1), x1, ?_⟩
  · unfold f_X12_goNight
    simp (disch := omega) only [qn0, qn1, qn2, qn3, qn4, qn5, qn6, qn7, qn8, qn9, qn10, qn11, qn12, qn13, qn14, qn15, qn16, qn17, qn18, qn24, qn30, qn31, qn32, qn33, qn36, qn38, qn40, qn41, qn42, qn43, qn45, qn47, qn48, qn49, qn50, qn51, qn52, qn53, qn57, qn58, qn59, qn60, qn61, qn62, qn63, qn91, qn93, qn97, qn99, qn100, qn103, qn104, qn112, qn113, qn115, qn116, qn118, qn119, qn121, qn124, qn173, qn177, qn240, qn255, qn295, qn352, qn353, qn533, qn999, qn1000, qn1023, qn6561, qn10000, qn20787, qn1000000, qn252645135, qn858993459, qn1000000000, qn1431655765, q_s1, q_s2, q_s3, q_s4, q_s5, iI_add, iI_sub, iI_mul, iI_neg, q_lt, q_le, q_eq, qz0, qz1, qz2, qz3, if_pos, if_neg, reduceIte, e0, e1, e2, e3, e4]
  · refine g1.tr (fun a b h1 _ => ?_)
    rw [ma_cell_ne _ _ _ _ _ _ (by omega), g2 a (by omega)]
/-- what a YEAR does ahead of its NIGHT: whom, what, whether, whom -/
def ma_y2 (T : Nat → Nat → Int) (s : Nat → Int) (p : Nat) (v z : Int) (q : Nat) (x3 x4 : Int64) : (Nat → Int) × Int64 := if z < T 3 1 then (ma_su (ma_su s (6 * p + 1) v) (6 * q) (if 9 < ma_su s (6 * p + 1) v (6 * q) + 3 then 9 else ma_su s (6 * p + 1) v (6 * q) + 3), x4) else (ma_su s (6 * p + 1) v, x3)
theorem ma_y2_ws (hs : ma_ws s) {p q : Nat} {v : Int} (hp : p < 8) (hq : q < 8) (hv : 0 ≤ v ∧ v ≤ 9) (z : Int) (x3 x4 : Int64) : ma_ws (ma_y2 T s p v z q x3 x4).1 ∧ (ma_y2 T s p v z q x3 x4).1 48 = s 48 := by
  have h1 := hs.su (p := p) (k := 1) hp (by decide) (v := v) (by have : ma_rg 1 = 9 := rfl; omega)
  have h2 : ma_su s (6 * p + 1) v 48 = s 48 := ma_su_ne _ _ (by omega)
  have o := h1.1 q hq
  unfold ma_one at o
  have hr : ma_rg 0 = 9 := rfl
  unfold ma_y2
  by_cases c : z < T 3 1
  · rw [if_pos c]
    simp only
    refine ⟨h1.su (p := q) (k := 0) hq (by decide) ?_, ?_⟩
    · rw [hr]
      split <;> omega
    · rw [ma_su_ne _ _ (by omega), h2]
  · rw [if_neg c]
    exact ⟨h1, h2⟩
def ma_y1 (T : Nat → Nat → Int) (s : Nat → Int) (x : Int64) : (Nat → Int) × Int64 := ma_y2 T s (ma_dv (ma_nx x) (T 3 0)).toNat (ma_dv (ma_nx (ma_nx x)) 10) (ma_dv (ma_nx (ma_nx (ma_nx x))) 10) (ma_dv (ma_nx (ma_nx (ma_nx (ma_nx x)))) (T 3 0)).toNat (ma_nx (ma_nx (ma_nx x))) (ma_nx (ma_nx (ma_nx (ma_nx x))))
theorem ma_y1_ws (w : ma_wT T) (hs : ma_ws s) (h0 : 0 < T 3 0) (x : Int64) : ma_ws (ma_y1 T s x).1 ∧ (ma_y1 T s x).1 48 = s 48 := by
  have f1 := w.1
  have b1 := ma_dv_b (ma_nx x) h0
  have b2 := ma_dv_b (ma_nx (ma_nx x)) (m := 10) (by decide)
  have b4 := ma_dv_b (ma_nx (ma_nx (ma_nx (ma_nx x)))) h0
  exact ma_y2_ws hs (by omega) (by omega) (by omega) _ _ _
def ma_yr (T : Nat → Nat → Int) (V : ma_V) (s : Nat → Int) (x : Int64) : (Nat → Int) × Int64 := ma_ng (ma_y1 T s x).1 T V (ma_y1 T s x).2
theorem ma_upl_eq (L : gs_L) (a b : Nat) (x : Int64) : gs_upl L a b x a b = x := by simp [gs_upl]
set_option maxHeartbeats 8000000 in
theorem c_yr2 (W : ma_W s T V) (C : ma_C s T V M) (L : gs_L) {p q : Nat} {v z : Int} {L1 L2 L3 L4 : gs_L} {x3 x4 : Int64} (hp : (p : Int) < T 3 0) (hq : (q : Int) < T 3 0) (hv : 0 ≤ v ∧ v ≤ 9) (hz : 0 ≤ z ∧ z ≤ 9) (d1 : f_X5_draw L (iI (T 3 0)) = some (iI p, L1)) (d2 : f_X5_draw L1 (iI 10) = some (iI v, L2)) (d3 : f_X5_draw L2 (iI 10) = some (iI z, L3)) (d4 : f_X5_draw L3 (iI (T 3 0)) = some (iI q, L4)) (h3 : L3 132 5 = x3) (h4 : L4 132 5 = x4) : ∃ M1 L9, f_X5_year M L (iI (T 3 1)) = some (M1, L9) ∧ ma_C (ma_ng (ma_y2 T s p v z q x3 x4).1 T V (ma_y2 T s p v z q x3 x4).2).1 T V M1 ∧ L9 132 5 = (ma_ng (ma_y2 T s p v z q x3 x4).1 T V (ma_y2 T s p v z q x3 x4).2).2 ∧ iv_hi M M1 := by
  have w := W.2.1
  obtain ⟨f1, f2, f3, f4, f5, f6, -⟩ := W.2.1
  have e0 := c_crowd C
  have x1 : ∀ (K : gs_M) x, f_X6_set K (iI p) (iI 1) x = some (gs_up K 10 (6 * p + 1) x) := fun K x => c_set (k := 1) (by omega) (by decide) x
  have x2 : ∀ (K : gs_M) x, f_X6_set K (iI q) (iI 0) x = some (gs_up K 10 (6 * q) x) := fun K x => c_set (k := 0) (by omega) (by decide) x
  have C1 := C.su w (k := 6 * p + 1) (by omega) v
  have hs := W.1.su (p := p) (k := 1) (by omega) (by decide) (v := v) (by have : ma_rg 1 = 9 := rfl; omega)
  have hy := ma_y2_ws (T := T) W.1 (p := p) (q := q) (v := v) (by omega) (by omega) hv z x3 x4
  have W1 : ma_W (ma_y2 T s p v z q x3 x4).1 T V := ⟨hy.1, W.2⟩
  have e9 := trivial
  by_cases c : z < T 3 1
  · obtain ⟨u, hu⟩ : ∃ u : Int, (if 9 < ma_su s (6 * p + 1) v (6 * q) + 3 then 9 else ma_su s (6 * p + 1) v (6 * q) + 3) = u := ⟨_, rfl⟩
    have hy1 : ma_y2 T s p v z q x3 x4 = (ma_su (ma_su s (6 * p + 1) v) (6 * q) u, x4) := by
      unfold ma_y2
      rw [if_pos c, hu]
    have oo := hs.1 q (by omega)
    unfold ma_one at oo
    have C2 := C1.su w (k := 6 * q) (by omega) u
    have e2 := c_of0 C1.st (p := q) (by omega)
    have e3 := c_crowd C1
    rw [hy1] at W1 ⊢
    simp only at W1 ⊢
    obtain ⟨M1, L9, e1, C4, x5, g4⟩ := c_pass W1 C2 L4
    rw [h4] at C4 x5
    refine ⟨M1, L9, ?_, C4, x5, ((iv_hi.rf.up _ (by decide)).up _ (by decide)).tr g4⟩
    generalize ma_su s (6 * p + 1) v (6 * q) = y at hu oo e2
    rcases (by omega : 9 < y + 3 ∨ y + 3 < 9 ∨ y + 3 = 9) with c2 | c2 | c2
    · rw [if_pos c2] at hu
      subst hu
      unfold f_X5_year
      simp (disch := omega) only [qn0, qn1, qn2, qn3, qn4, qn5, qn6, qn7, qn8, qn9, qn10, qn11, qn12, qn13, qn14, qn15, qn16, qn17, qn18, qn24, qn30, qn31, qn32, qn33, qn36, qn38, qn40, qn41, qn42, qn43, qn45, qn47, qn48, qn49, qn50, qn51, qn52, qn53, qn57, qn58, qn59, qn60, qn61, qn62, qn63, qn91, qn93, qn97, qn99, qn100, qn103, qn104, qn112, qn113, qn115, qn116, qn118, qn119, qn121, qn124, qn173, qn177, qn240, qn255, qn295, qn352, qn353, qn533, qn999, qn1000, qn1023, qn6561, qn10000, qn20787, qn1000000, qn252645135, qn858993459, qn1000000000, qn1431655765, q_s1, q_s2, q_s3, q_s4, q_s5, iI_add, iI_sub, iI_mul, iI_neg, q_lt, q_le, q_eq, qz0, qz1, qz2, qz3, if_pos, if_neg, reduceIte, e0, d1, d2, x1, d3, e3, d4, e2, x2, e1]
    · rw [if_neg (by omega)] at hu
      subst hu
      unfold f_X5_year
      simp (disch := omega) only [qn0, qn1, qn2, qn3, qn4, qn5, qn6, qn7, qn8, qn9, qn10, qn11, qn12, qn13, qn14, qn15, qn16, qn17, qn18, qn24, qn30, qn31, qn32, qn33, qn36, qn38, qn40, qn41, qn42, qn43, qn45, qn47, qn48, qn49, qn50, qn51, qn52, qn53, qn57, qn58, qn59, qn60, qn61, qn62, qn63, qn91, qn93, qn97, qn99, qn100, qn103, qn104, qn112, qn113, qn115, qn116, qn118, qn119, qn121, qn124, qn173, qn177, qn240, qn255, qn295, qn352, qn353, qn533, qn999, qn1000, qn1023, qn6561, qn10000, qn20787, qn1000000, qn252645135, qn858993459, qn1000000000, qn1431655765, q_s1, q_s2, q_s3, q_s4, q_s5, iI_add, iI_sub, iI_mul, iI_neg, q_lt, q_le, q_eq, qz0, qz1, qz2, qz3, if_pos, if_neg, reduceIte, e0, d1, d2, x1, d3, e3, d4, e2, x2, e1]
    · rw [if_neg (by omega), c2] at hu
      subst hu
      unfold f_X5_year
      simp (disch := omega) only [qn0, qn1, qn2, qn3, qn4, qn5, qn6, qn7, qn8, qn9, qn10, qn11, qn12, qn13, qn14, qn15, qn16, qn17, qn18, qn24, qn30, qn31, qn32, qn33, qn36, qn38, qn40, qn41, qn42, qn43, qn45, qn47, qn48, qn49, qn50, qn51, qn52, qn53, qn57, qn58, qn59, qn60, qn61, qn62, qn63, qn91, qn93, qn97, qn99, qn100, qn103, qn104, qn112, qn113, qn115, qn116, qn118, qn119, qn121, qn124, qn173, qn177, qn240, qn255, qn295, qn352, qn353, qn533, qn999, qn1000, qn1023, qn6561, qn10000, qn20787, qn1000000, qn252645135, qn858993459, qn1000000000, qn1431655765, q_s1, q_s2, q_s3, q_s4, q_s5, iI_add, iI_sub, iI_mul, iI_neg, q_lt, q_le, q_eq, qz0, qz1, qz2, qz3, if_pos, if_neg, reduceIte, e0, c2, d1, d2, x1, d3, e3, d4, e2, x2, e1]
  · have hy1 : ma_y2 T s p v z q x3 x4 = (ma_su s (6 * p + 1) v, x3) := by
      unfold ma_y2
      rw [if_neg c]
    rw [hy1] at W1 ⊢
    simp only at W1 ⊢
    obtain ⟨M1, L9, e1, C4, x5, g4⟩ := c_pass W1 C1 L3
    rw [h3] at C4 x5
    refine ⟨M1, L9, ?_, C4, x5, (iv_hi.rf.up _ (by decide)).tr g4⟩
    unfold f_X5_year
    simp (disch := omega) only [qn0, qn1, qn2, qn3, qn4, qn5, qn6, qn7, qn8, qn9, qn10, qn11, qn12, qn13, qn14, qn15, qn16, qn17, qn18, qn24, qn30, qn31, qn32, qn33, qn36, qn38, qn40, qn41, qn42, qn43, qn45, qn47, qn48, qn49, qn50, qn51, qn52, qn53, qn57, qn58, qn59, qn60, qn61, qn62, qn63, qn91, qn93, qn97, qn99, qn100, qn103, qn104, qn112, qn113, qn115, qn116, qn118, qn119, qn121, qn124, qn173, qn177, qn240, qn255, qn295, qn352, qn353, qn533, qn999, qn1000, qn1023, qn6561, qn10000, qn20787, qn1000000, qn252645135, qn858993459, qn1000000000, qn1431655765, q_s1, q_s2, q_s3, q_s4, q_s5, iI_add, iI_sub, iI_mul, iI_neg, q_lt, q_le, q_eq, qz0, qz1, qz2, qz3, if_pos, if_neg, reduceIte, e0, d1, d2, x1, d3, e1]
theorem c_yr (W : ma_W s T V) (C : ma_C s T V M) (h0 : 0 < T 3 0) (L : gs_L) : ∃ M1 L9, f_X5_year M L (iI (T 3 1)) = some (M1, L9) ∧ ma_C (ma_yr T V s (L 132 5)).1 T V M1 ∧ L9 132 5 = (ma_yr T V s (L 132 5)).2 ∧ iv_hi M M1 := by
  have f1 := W.2.1.1
  have b1 := ma_dv_b (ma_nx (L 132 5)) h0
  have b2 := ma_dv_b (ma_nx (ma_nx (L 132 5))) (m := 10) (by decide)
  have b3 := ma_dv_b (ma_nx (ma_nx (ma_nx (L 132 5)))) (m := 10) (by decide)
  have b4 := ma_dv_b (ma_nx (ma_nx (ma_nx (ma_nx (L 132 5))))) h0
  have d1 := c_draw L (m := T 3 0) (by omega)
  have d2 := c_draw (gs_upl L 132 5 (ma_nx (L 132 5))) (m := 10) (by omega)
  rw [ma_upl_eq] at d2
  have d3 := c_draw (gs_upl (gs_upl L 132 5 (ma_nx (L 132 5))) 132 5 (ma_nx (ma_nx (L 132 5)))) (m := 10) (by omega)
  rw [ma_upl_eq] at d3
  have d4 := c_draw (gs_upl (gs_upl (gs_upl L 132 5 (ma_nx (L 132 5))) 132 5 (ma_nx (ma_nx (L 132 5)))) 132 5 (ma_nx (ma_nx (ma_nx (L 132 5))))) (m := T 3 0) (by omega)
  rw [ma_upl_eq] at d4
  have hp := Int.toNat_of_nonneg b1.1
  have hq := Int.toNat_of_nonneg b4.1
  rw [← hp] at d1
  rw [← hq] at d4
  exact c_yr2 W C L (by omega) (by omega) (by omega) (by omega) d1 d2 d3 d4 (ma_upl_eq _ _ _ _) (ma_upl_eq _ _ _ _)
set_option maxHeartbeats 8000000 in
theorem m_yr2 (W : ma_W s T V) (C : ma_M s T V M) (L : gs_L) {p q : Nat} {v z : Int} {L1 L2 L3 L4 : gs_L} {x3 x4 : Int64} (hp : (p : Int) < T 3 0) (hq : (q : Int) < T 3 0) (hv : 0 ≤ v ∧ v ≤ 9) (hz : 0 ≤ z ∧ z ≤ 9) (d1 : f_X12_draw L (iI (T 3 0)) = some (iI p, L1)) (d2 : f_X12_draw L1 (iI 10) = some (iI v, L2)) (d3 : f_X12_draw L2 (iI 10) = some (iI z, L3)) (d4 : f_X12_draw L3 (iI (T 3 0)) = some (iI q, L4)) (h3 : L3 147 32 = x3) (h4 : L4 147 32 = x4) : ∃ M1 L9, (gs_b2 (f_X12_draw L (M 147 24)) fun v4 L5 =>
    gs_b2 (f_X12_draw L5 (iI 10)) fun v7 L8 =>
    gs_b1 (gs_wr M 158 533 ((iI 6 * v4) + iI 1) v7) fun M11 =>
    gs_b2 (f_X12_draw L8 (iI 10)) fun v12 L13 =>
    gs_b2 (if (M11 147 31) ≤ v12 then
    some (M11, L13)
    else
    gs_b2 (f_X12_draw L13 (M11 147 24)) fun v20 L21 =>
    gs_b1 (f_X12_of M11 v20 (iI 0)) fun v23 =>
    gs_b1 (gs_wr M11 158 533 ((iI 6 * v20) + iI 0) (if (v23 + iI 3) < iI 9 then (v23 + iI 3) else iI 9)) fun M26 =>
    some (M26, L21)) fun M15 L16 => f_X12_goNight M15 L16) = some (M1, L9) ∧ ma_M (ma_ng (ma_y2 T s p v z q x3 x4).1 T V (ma_y2 T s p v z q x3 x4).2).1 T V M1 ∧ L9 147 32 = (ma_ng (ma_y2 T s p v z q x3 x4).1 T V (ma_y2 T s p v z q x3 x4).2).2 ∧ iv_lo M M1 := by
  have w := W.2.1
  obtain ⟨f1, f2, f3, f4, f5, f6, -⟩ := W.2.1
  have e0 := C.fo
  have x1 : ∀ (K : gs_M) x, gs_wr K 158 533 (iI (6 * p + 1)) x = some (gs_up K 158 (6 * p + 1) x) := fun K x => m_set (k := 1) (by omega) (by decide) x
  have x2 : ∀ (K : gs_M) x, gs_wr K 158 533 (iI (6 * q + 0)) x = some (gs_up K 158 (6 * q) x) := fun K x => m_set (k := 0) (by omega) (by decide) x
  have C1 := C.su w (6 * p + 1) v
  have hs := W.1.su (p := p) (k := 1) (by omega) (by decide) (v := v) (by have : ma_rg 1 = 9 := rfl; omega)
  have hy := ma_y2_ws (T := T) W.1 (p := p) (q := q) (v := v) (by omega) (by omega) hv z x3 x4
  have W1 : ma_W (ma_y2 T s p v z q x3 x4).1 T V := ⟨hy.1, W.2⟩
  have e9 := C1.cr
  by_cases c : z < T 3 1
  · obtain ⟨u, hu⟩ : ∃ u : Int, (if 9 < ma_su s (6 * p + 1) v (6 * q) + 3 then 9 else ma_su s (6 * p + 1) v (6 * q) + 3) = u := ⟨_, rfl⟩
    have hy1 : ma_y2 T s p v z q x3 x4 = (ma_su (ma_su s (6 * p + 1) v) (6 * q) u, x4) := by
      unfold ma_y2
      rw [if_pos c, hu]
    have oo := hs.1 q (by omega)
    unfold ma_one at oo
    have C2 := C1.su w (6 * q) u
    have e2 := m_of0 C1.st (p := q) (by omega)
    have e3 := C1.fo
    rw [hy1] at W1 ⊢
    simp only at W1 ⊢
    obtain ⟨M1, L9, e1, C4, x5, g4⟩ := m_pass W1 C2 L4
    rw [h4] at C4 x5
    refine ⟨M1, L9, ?_, C4, x5, ((iv_lo.rf.up _ (by decide)).up _ (by decide)).tr g4⟩
    generalize ma_su s (6 * p + 1) v (6 * q) = y at hu oo e2
    rcases (by omega : 9 < y + 3 ∨ y + 3 < 9 ∨ y + 3 = 9) with c2 | c2 | c2
    · rw [if_pos c2] at hu
      subst hu
      simp (disch := omega) only [qn0, qn1, qn2, qn3, qn4, qn5, qn6, qn7, qn8, qn9, qn10, qn11, qn12, qn13, qn14, qn15, qn16, qn17, qn18, qn24, qn30, qn31, qn32, qn33, qn36, qn38, qn40, qn41, qn42, qn43, qn45, qn47, qn48, qn49, qn50, qn51, qn52, qn53, qn57, qn58, qn59, qn60, qn61, qn62, qn63, qn91, qn93, qn97, qn99, qn100, qn103, qn104, qn112, qn113, qn115, qn116, qn118, qn119, qn121, qn124, qn173, qn177, qn240, qn255, qn295, qn352, qn353, qn533, qn999, qn1000, qn1023, qn6561, qn10000, qn20787, qn1000000, qn252645135, qn858993459, qn1000000000, qn1431655765, q_s1, q_s2, q_s3, q_s4, q_s5, iI_add, iI_sub, iI_mul, iI_neg, q_lt, q_le, q_eq, qz0, qz1, qz2, qz3, if_pos, if_neg, reduceIte, e0, e9, d1, d2, x1, d3, e3, d4, e2, x2, e1]
    · rw [if_neg (by omega)] at hu
      subst hu
      simp (disch := omega) only [qn0, qn1, qn2, qn3, qn4, qn5, qn6, qn7, qn8, qn9, qn10, qn11, qn12, qn13, qn14, qn15, qn16, qn17, qn18, qn24, qn30, qn31, qn32, qn33, qn36, qn38, qn40, qn41, qn42, qn43, qn45, qn47, qn48, qn49, qn50, qn51, qn52, qn53, qn57, qn58, qn59, qn60, qn61, qn62, qn63, qn91, qn93, qn97, qn99, qn100, qn103, qn104, qn112, qn113, qn115, qn116, qn118, qn119, qn121, qn124, qn173, qn177, qn240, qn255, qn295, qn352, qn353, qn533, qn999, qn1000, qn1023, qn6561, qn10000, qn20787, qn1000000, qn252645135, qn858993459, qn1000000000, qn1431655765, q_s1, q_s2, q_s3, q_s4, q_s5, iI_add, iI_sub, iI_mul, iI_neg, q_lt, q_le, q_eq, qz0, qz1, qz2, qz3, if_pos, if_neg, reduceIte, e0, e9, d1, d2, x1, d3, e3, d4, e2, x2, e1]
    · rw [if_neg (by omega), c2] at hu
      subst hu
      simp (disch := omega) only [qn0, qn1, qn2, qn3, qn4, qn5, qn6, qn7, qn8, qn9, qn10, qn11, qn12, qn13, qn14, qn15, qn16, qn17, qn18, qn24, qn30, qn31, qn32, qn33, qn36, qn38, qn40, qn41, qn42, qn43, qn45, qn47, qn48, qn49, qn50, qn51, qn52, qn53, qn57, qn58, qn59, qn60, qn61, qn62, qn63, qn91, qn93, qn97, qn99, qn100, qn103, qn104, qn112, qn113, qn115, qn116, qn118, qn119, qn121, qn124, qn173, qn177, qn240, qn255, qn295, qn352, qn353, qn533, qn999, qn1000, qn1023, qn6561, qn10000, qn20787, qn1000000, qn252645135, qn858993459, qn1000000000, qn1431655765, q_s1, q_s2, q_s3, q_s4, q_s5, iI_add, iI_sub, iI_mul, iI_neg, q_lt, q_le, q_eq, qz0, qz1, qz2, qz3, if_pos, if_neg, reduceIte, e0, e9, c2, d1, d2, x1, d3, e3, d4, e2, x2, e1]
  · have hy1 : ma_y2 T s p v z q x3 x4 = (ma_su s (6 * p + 1) v, x3) := by
      unfold ma_y2
      rw [if_neg c]
    rw [hy1] at W1 ⊢
    simp only at W1 ⊢
    obtain ⟨M1, L9, e1, C4, x5, g4⟩ := m_pass W1 C1 L3
    rw [h3] at C4 x5
    refine ⟨M1, L9, ?_, C4, x5, (iv_lo.rf.up _ (by decide)).tr g4⟩
    simp (disch := omega) only [qn0, qn1, qn2, qn3, qn4, qn5, qn6, qn7, qn8, qn9, qn10, qn11, qn12, qn13, qn14, qn15, qn16, qn17, qn18, qn24, qn30, qn31, qn32, qn33, qn36, qn38, qn40, qn41, qn42, qn43, qn45, qn47, qn48, qn49, qn50, qn51, qn52, qn53, qn57, qn58, qn59, qn60, qn61, qn62, qn63, qn91, qn93, qn97, qn99, qn100, qn103, qn104, qn112, qn113, qn115, qn116, qn118, qn119, qn121, qn124, qn173, qn177, qn240, qn255, qn295, qn352, qn353, qn533, qn999, qn1000, qn1023, qn6561, qn10000, qn20787, qn1000000, qn252645135, qn858993459, qn1000000000, qn1431655765, q_s1, q_s2, q_s3, q_s4, q_s5, iI_add, iI_sub, iI_mul, iI_neg, q_lt, q_le, q_eq, qz0, qz1, qz2, qz3, if_pos, if_neg, reduceIte, e0, e9, d1, d2, x1, d3, e1]
theorem m_yr (W : ma_W s T V) (C : ma_M s T V M) (h0 : 0 < T 3 0) (L : gs_L) : ∃ M1 L9, (gs_b2 (f_X12_draw L (M 147 24)) fun v4 L5 =>
    gs_b2 (f_X12_draw L5 (iI 10)) fun v7 L8 =>
    gs_b1 (gs_wr M 158 533 ((iI 6 * v4) + iI 1) v7) fun M11 =>
    gs_b2 (f_X12_draw L8 (iI 10)) fun v12 L13 =>
    gs_b2 (if (M11 147 31) ≤ v12 then
    some (M11, L13)
    else
    gs_b2 (f_X12_draw L13 (M11 147 24)) fun v20 L21 =>
    gs_b1 (f_X12_of M11 v20 (iI 0)) fun v23 =>
    gs_b1 (gs_wr M11 158 533 ((iI 6 * v20) + iI 0) (if (v23 + iI 3) < iI 9 then (v23 + iI 3) else iI 9)) fun M26 =>
    some (M26, L21)) fun M15 L16 => f_X12_goNight M15 L16) = some (M1, L9) ∧ ma_M (ma_yr T V s (L 147 32)).1 T V M1 ∧ L9 147 32 = (ma_yr T V s (L 147 32)).2 ∧ iv_lo M M1 := by
  have f1 := W.2.1.1
  have b1 := ma_dv_b (ma_nx (L 147 32)) h0
  have b2 := ma_dv_b (ma_nx (ma_nx (L 147 32))) (m := 10) (by decide)
  have b3 := ma_dv_b (ma_nx (ma_nx (ma_nx (L 147 32)))) (m := 10) (by decide)
  have b4 := ma_dv_b (ma_nx (ma_nx (ma_nx (ma_nx (L 147 32))))) h0
  have d1 := m_draw L (m := T 3 0) (by omega)
  have d2 := m_draw (gs_upl L 147 32 (ma_nx (L 147 32))) (m := 10) (by omega)
  rw [ma_upl_eq] at d2
  have d3 := m_draw (gs_upl (gs_upl L 147 32 (ma_nx (L 147 32))) 147 32 (ma_nx (ma_nx (L 147 32)))) (m := 10) (by omega)
  rw [ma_upl_eq] at d3
  have d4 := m_draw (gs_upl (gs_upl (gs_upl L 147 32 (ma_nx (L 147 32))) 147 32 (ma_nx (ma_nx (L 147 32)))) 147 32 (ma_nx (ma_nx (ma_nx (L 147 32))))) (m := T 3 0) (by omega)
  rw [ma_upl_eq] at d4
  have hp := Int.toNat_of_nonneg b1.1
  have hq := Int.toNat_of_nonneg b4.1
  rw [← hp] at d1
  rw [← hq] at d4
  exact m_yr2 W C L (by omega) (by omega) (by omega) (by omega) d1 d2 d3 d4 (ma_upl_eq _ _ _ _) (ma_upl_eq _ _ _ _)
/-- YEAR by YEAR -/
abbrev ma_Y : Type := (Nat → Int) × (Nat → Nat → Int) × Int64
def ma_ys (V : ma_V) : Nat → ma_Y → ma_Y
  | 0, a => a
  | k + 1, a => ((ma_yr (ma_push (ma_ys V k a).2.1 (ma_ys V k a).1) V (ma_ys V k a).1 (ma_ys V k a).2.2).1, ma_push (ma_ys V k a).2.1 (ma_ys V k a).1, (ma_yr (ma_push (ma_ys V k a).2.1 (ma_ys V k a).1) V (ma_ys V k a).1 (ma_ys V k a).2.2).2)
theorem ma_yr_w (W : ma_W s T V) (h0 : 0 < T 3 0) (h48 : s 48 < 999) (x : Int64) : ma_ws (ma_yr T V s x).1 ∧ (ma_yr T V s x).1 48 = s 48 + 1 := by
  obtain ⟨h1, h2⟩ := ma_y1_ws W.2.1 W.1 h0 x
  have h3 := ma_ng_ws (s := (ma_y1 T s x).1) (T := T) (V := V) ⟨h1, W.2⟩ (ma_y1 T s x).2 (by omega)
  rw [h2] at h3
  exact h3
theorem ma_ys_w (W : ma_W s T V) (h0 : 0 < T 3 0) (x : Int64) {k : Nat} (hk : s 48 + k ≤ 999) : ma_W (ma_ys V k (s, T, x)).1 (ma_ys V k (s, T, x)).2.1 V ∧ (ma_ys V k (s, T, x)).1 48 = s 48 + k ∧ (ma_ys V k (s, T, x)).2.1 3 0 = T 3 0 := by
  induction k with
  | zero => exact ⟨W, by simp [ma_ys], rfl⟩
  | succ k ih =>
    obtain ⟨h1, h2, h3⟩ := ih (by omega)
    have W1 := h1.push
    have h4 : 0 < ma_push (ma_ys V k (s, T, x)).2.1 (ma_ys V k (s, T, x)).1 3 0 := by
      show 0 < (ma_ys V k (s, T, x)).2.1 3 0
      omega
    obtain ⟨h5, h6⟩ := ma_yr_w W1 h4 (by omega) (ma_ys V k (s, T, x)).2.2
    refine ⟨⟨h5, W1.2⟩, ?_, h3⟩
    show (ma_yr _ V _ _).1 48 = _
    rw [h6, h2]
    omega
end Years
theorem s_night : gl_S_night ma_Inv := by
  intro M L hI x1
  have hI0 := hI
  obtain ⟨s, T, V, W, C, D⟩ := hI
  have w := W.2.1
  obtain ⟨f1, f2, f3, f4, f5, f6, f7, f8, f9, f10, f11, f12, f13, f14, -⟩ := W.2.1
  have D1 := ma_D0 D w (iI 0)
  have w48 := W.1.2.1
  have e1 := c_now0 C.st
  have e2 := m_c48 D1.st
  rcases (by omega : T 3 0 = 0 ∨ (0 < T 3 0 ∧ s 48 = 999) ∨ (0 < T 3 0 ∧ s 48 < 999)) with c | c | c
  · refine ⟨iI (-1), M, L, gs_up M 147 0 (iI 0), L, ?_, ?_, hI0.ag (ma_g0 iv_ag.rf _)⟩
    · unfold f_X11_night
      simp (disch := omega) only [qn0, qn1, qn2, qn3, qn4, qn5, qn6, qn7, qn8, qn9, qn10, qn11, qn12, qn13, qn14, qn15, qn16, qn17, qn18, qn24, qn30, qn31, qn32, qn33, qn36, qn38, qn40, qn41, qn42, qn43, qn45, qn47, qn48, qn49, qn50, qn51, qn52, qn53, qn57, qn58, qn59, qn60, qn61, qn62, qn63, qn91, qn93, qn97, qn99, qn100, qn103, qn104, qn112, qn113, qn115, qn116, qn118, qn119, qn121, qn124, qn173, qn177, qn240, qn255, qn295, qn352, qn353, qn533, qn999, qn1000, qn1023, qn6561, qn10000, qn20787, qn1000000, qn252645135, qn858993459, qn1000000000, qn1431655765, q_s1, q_s2, q_s3, q_s4, q_s5, iI_add, iI_sub, iI_mul, iI_neg, q_lt, q_le, q_eq, qz0, qz1, qz2, qz3, if_pos, if_neg, reduceIte, c_town0 C c]
    · unfold f_X12_night
      simp (disch := omega) only [qn0, qn1, qn2, qn3, qn4, qn5, qn6, qn7, qn8, qn9, qn10, qn11, qn12, qn13, qn14, qn15, qn16, qn17, qn18, qn24, qn30, qn31, qn32, qn33, qn36, qn38, qn40, qn41, qn42, qn43, qn45, qn47, qn48, qn49, qn50, qn51, qn52, qn53, qn57, qn58, qn59, qn60, qn61, qn62, qn63, qn91, qn93, qn97, qn99, qn100, qn103, qn104, qn112, qn113, qn115, qn116, qn118, qn119, qn121, qn124, qn173, qn177, qn240, qn255, qn295, qn352, qn353, qn533, qn999, qn1000, qn1023, qn6561, qn10000, qn20787, qn1000000, qn252645135, qn858993459, qn1000000000, qn1431655765, q_s1, q_s2, q_s3, q_s4, q_s5, iI_add, iI_sub, iI_mul, iI_neg, q_lt, q_le, q_eq, qz0, qz1, qz2, qz3, if_pos, if_neg, reduceIte, D1.fo]
  · refine ⟨iI (-1), M, L, gs_up M 147 0 (iI 0), L, ?_, ?_, hI0.ag (ma_g0 iv_ag.rf _)⟩
    · unfold f_X11_night
      simp (disch := omega) only [qn0, qn1, qn2, qn3, qn4, qn5, qn6, qn7, qn8, qn9, qn10, qn11, qn12, qn13, qn14, qn15, qn16, qn17, qn18, qn24, qn30, qn31, qn32, qn33, qn36, qn38, qn40, qn41, qn42, qn43, qn45, qn47, qn48, qn49, qn50, qn51, qn52, qn53, qn57, qn58, qn59, qn60, qn61, qn62, qn63, qn91, qn93, qn97, qn99, qn100, qn103, qn104, qn112, qn113, qn115, qn116, qn118, qn119, qn121, qn124, qn173, qn177, qn240, qn255, qn295, qn352, qn353, qn533, qn999, qn1000, qn1023, qn6561, qn10000, qn20787, qn1000000, qn252645135, qn858993459, qn1000000000, qn1431655765, q_s1, q_s2, q_s3, q_s4, q_s5, iI_add, iI_sub, iI_mul, iI_neg, q_lt, q_le, q_eq, qz0, qz1, qz2, qz3, if_pos, if_neg, reduceIte, c_town1 w C c.1, e1]
    · unfold f_X12_night
      simp (disch := omega) only [qn0, qn1, qn2, qn3, qn4, qn5, qn6, qn7, qn8, qn9, qn10, qn11, qn12, qn13, qn14, qn15, qn16, qn17, qn18, qn24, qn30, qn31, qn32, qn33, qn36, qn38, qn40, qn41, qn42, qn43, qn45, qn47, qn48, qn49, qn50, qn51, qn52, qn53, qn57, qn58, qn59, qn60, qn61, qn62, qn63, qn91, qn93, qn97, qn99, qn100, qn103, qn104, qn112, qn113, qn115, qn116, qn118, qn119, qn121, qn124, qn173, qn177, qn240, qn255, qn295, qn352, qn353, qn533, qn999, qn1000, qn1023, qn6561, qn10000, qn20787, qn1000000, qn252645135, qn858993459, qn1000000000, qn1431655765, q_s1, q_s2, q_s3, q_s4, q_s5, iI_add, iI_sub, iI_mul, iI_neg, q_lt, q_le, q_eq, qz0, qz1, qz2, qz3, if_pos, if_neg, reduceIte, D1.fo, e2]
  · have W1 := W.push
    have w1 := W1.2.1
    obtain ⟨M1, k1, C1, g1⟩ := c_keep W C
    obtain ⟨M2, L2, k2, C2, x2, g2⟩ := c_pass W1 C1 (gs_upl L 132 5 x1)
    rw [ma_upl_eq] at C2 x2
    have D2 := ma_D0 (D.hi w (g1.tr g2)) w (iI 0)
    obtain ⟨M3, k3, D3, g3⟩ := m_rem W D2
    obtain ⟨M4, L4, k4, D4, x4, g4⟩ := m_pass W1 D3 (gs_upl L2 147 32 x1)
    rw [ma_upl_eq] at D4 x4
    obtain ⟨hs, h48⟩ := ma_ng_ws W1 x1 c.2
    have e3 := c_now0 C2.st
    have e4 := m_c48 D4.st
    have e5 := m_c48 D2.st
    refine ⟨iI ((ma_ng s (ma_push T s) V x1).1 48), M2, L2, M4, L4, ?_, ?_, (ma_ng s (ma_push T s) V x1).1, ma_push T s, V, ⟨hs, W1.2⟩, C2.lo w1 (((iv_lo.rf.up _ (by decide)).tr g3).tr g4), D4⟩
    · unfold f_X11_night f_X5_sow
      simp (disch := omega) only [qn0, qn1, qn2, qn3, qn4, qn5, qn6, qn7, qn8, qn9, qn10, qn11, qn12, qn13, qn14, qn15, qn16, qn17, qn18, qn24, qn30, qn31, qn32, qn33, qn36, qn38, qn40, qn41, qn42, qn43, qn45, qn47, qn48, qn49, qn50, qn51, qn52, qn53, qn57, qn58, qn59, qn60, qn61, qn62, qn63, qn91, qn93, qn97, qn99, qn100, qn103, qn104, qn112, qn113, qn115, qn116, qn118, qn119, qn121, qn124, qn173, qn177, qn240, qn255, qn295, qn352, qn353, qn533, qn999, qn1000, qn1023, qn6561, qn10000, qn20787, qn1000000, qn252645135, qn858993459, qn1000000000, qn1431655765, q_s1, q_s2, q_s3, q_s4, q_s5, iI_add, iI_sub, iI_mul, iI_neg, q_lt, q_le, q_eq, qz0, qz1, qz2, qz3, if_pos, if_neg, reduceIte, c_town1 w C c.1, e1, k1, k2, e3]
    · unfold f_X12_night
      simp (disch := omega) only [qn0, qn1, qn2, qn3, qn4, qn5, qn6, qn7, qn8, qn9, qn10, qn11, qn12, qn13, qn14, qn15, qn16, qn17, qn18, qn24, qn30, qn31, qn32, qn33, qn36, qn38, qn40, qn41, qn42, qn43, qn45, qn47, qn48, qn49, qn50, qn51, qn52, qn53, qn57, qn58, qn59, qn60, qn61, qn62, qn63, qn91, qn93, qn97, qn99, qn100, qn103, qn104, qn112, qn113, qn115, qn116, qn118, qn119, qn121, qn124, qn173, qn177, qn240, qn255, qn295, qn352, qn353, qn533, qn999, qn1000, qn1023, qn6561, qn10000, qn20787, qn1000000, qn252645135, qn858993459, qn1000000000, qn1431655765, q_s1, q_s2, q_s3, q_s4, q_s5, iI_add, iI_sub, iI_mul, iI_neg, q_lt, q_le, q_eq, qz0, qz1, qz2, qz3, if_pos, if_neg, reduceIte, D2.fo, e5, k3, k4, e4]
theorem s_years : gl_S_years ma_Inv := by
  intro M L hI x1 x2
  have hI0 := hI
  obtain ⟨s, T, V, W, C, D⟩ := hI
  have w := W.2.1
  obtain ⟨f1, f2, f3, f4, f5, f6, f7, f8, f9, f10, f11, f12, f13, f14, -⟩ := W.2.1
  have D1 := ma_D0 D w (iI 0)
  obtain ⟨z, z1, z2, rfl⟩ := q_any x1
  have w48 := W.1.2.1
  have e1 := c_now0 C.st
  have e2 := m_c48 D1.st
  rcases (by omega : T 3 0 = 0 ∨ (0 < T 3 0 ∧ z < 1) ∨ (0 < T 3 0 ∧ 30 < z) ∨ (0 < T 3 0 ∧ 1 ≤ z ∧ z ≤ 30 ∧ 999 < s 48 + z) ∨ (0 < T 3 0 ∧ 1 ≤ z ∧ z ≤ 30 ∧ s 48 + z ≤ 999)) with c | c | c | c | c
  · refine ⟨iI (-1), M, L, gs_up M 147 0 (iI 0), L, ?_, ?_, hI0.ag (ma_g0 iv_ag.rf _)⟩
    · unfold f_X11_years
      simp (disch := omega) only [qn0, qn1, qn2, qn3, qn4, qn5, qn6, qn7, qn8, qn9, qn10, qn11, qn12, qn13, qn14, qn15, qn16, qn17, qn18, qn24, qn30, qn31, qn32, qn33, qn36, qn38, qn40, qn41, qn42, qn43, qn45, qn47, qn48, qn49, qn50, qn51, qn52, qn53, qn57, qn58, qn59, qn60, qn61, qn62, qn63, qn91, qn93, qn97, qn99, qn100, qn103, qn104, qn112, qn113, qn115, qn116, qn118, qn119, qn121, qn124, qn173, qn177, qn240, qn255, qn295, qn352, qn353, qn533, qn999, qn1000, qn1023, qn6561, qn10000, qn20787, qn1000000, qn252645135, qn858993459, qn1000000000, qn1431655765, q_s1, q_s2, q_s3, q_s4, q_s5, iI_add, iI_sub, iI_mul, iI_neg, q_lt, q_le, q_eq, qz0, qz1, qz2, qz3, if_pos, if_neg, reduceIte, c_town0 C c]
    · unfold f_X12_years
      simp (disch := omega) only [qn0, qn1, qn2, qn3, qn4, qn5, qn6, qn7, qn8, qn9, qn10, qn11, qn12, qn13, qn14, qn15, qn16, qn17, qn18, qn24, qn30, qn31, qn32, qn33, qn36, qn38, qn40, qn41, qn42, qn43, qn45, qn47, qn48, qn49, qn50, qn51, qn52, qn53, qn57, qn58, qn59, qn60, qn61, qn62, qn63, qn91, qn93, qn97, qn99, qn100, qn103, qn104, qn112, qn113, qn115, qn116, qn118, qn119, qn121, qn124, qn173, qn177, qn240, qn255, qn295, qn352, qn353, qn533, qn999, qn1000, qn1023, qn6561, qn10000, qn20787, qn1000000, qn252645135, qn858993459, qn1000000000, qn1431655765, qj0, qj1, qj2, qj4, qj7, qj8, qj9, qj10, qj30, qj100, qj1000, qj1000000, qj1000000000, qj1442695040888963407, qj6364136223846793005, q_s1, q_s2, q_s3, q_s4, q_s5, iI_add, iI_sub, iI_mul, iI_neg, q_lt, q_le, q_eq, jI_add, jI_sub, jI_mul, jI_neg, jI_of, jI_to, j_le0, j_ge0, j_lt0, j_gt0, j_eq0, q_dvl, qz0, qz1, qz2, qz3, if_pos, if_neg, reduceIte, D1.fo]
  · refine ⟨iI (-1), M, L, gs_up M 147 0 (iI 0), L, ?_, ?_, hI0.ag (ma_g0 iv_ag.rf _)⟩
    · unfold f_X11_years
      simp (disch := omega) only [qn0, qn1, qn2, qn3, qn4, qn5, qn6, qn7, qn8, qn9, qn10, qn11, qn12, qn13, qn14, qn15, qn16, qn17, qn18, qn24, qn30, qn31, qn32, qn33, qn36, qn38, qn40, qn41, qn42, qn43, qn45, qn47, qn48, qn49, qn50, qn51, qn52, qn53, qn57, qn58, qn59, qn60, qn61, qn62, qn63, qn91, qn93, qn97, qn99, qn100, qn103, qn104, qn112, qn113, qn115, qn116, qn118, qn119, qn121, qn124, qn173, qn177, qn240, qn255, qn295, qn352, qn353, qn533, qn999, qn1000, qn1023, qn6561, qn10000, qn20787, qn1000000, qn252645135, qn858993459, qn1000000000, qn1431655765, q_s1, q_s2, q_s3, q_s4, q_s5, iI_add, iI_sub, iI_mul, iI_neg, q_lt, q_le, q_eq, qz0, qz1, qz2, qz3, if_pos, if_neg, reduceIte, c_town1 w C c.1, e1]
    · unfold f_X12_years
      simp (disch := omega) only [qn0, qn1, qn2, qn3, qn4, qn5, qn6, qn7, qn8, qn9, qn10, qn11, qn12, qn13, qn14, qn15, qn16, qn17, qn18, qn24, qn30, qn31, qn32, qn33, qn36, qn38, qn40, qn41, qn42, qn43, qn45, qn47, qn48, qn49, qn50, qn51, qn52, qn53, qn57, qn58, qn59, qn60, qn61, qn62, qn63, qn91, qn93, qn97, qn99, qn100, qn103, qn104, qn112, qn113, qn115, qn116, qn118, qn119, qn121, qn124, qn173, qn177, qn240, qn255, qn295, qn352, qn353, qn533, qn999, qn1000, qn1023, qn6561, qn10000, qn20787, qn1000000, qn252645135, qn858993459, qn1000000000, qn1431655765, qj0, qj1, qj2, qj4, qj7, qj8, qj9, qj10, qj30, qj100, qj1000, qj1000000, qj1000000000, qj1442695040888963407, qj6364136223846793005, q_s1, q_s2, q_s3, q_s4, q_s5, iI_add, iI_sub, iI_mul, iI_neg, q_lt, q_le, q_eq, jI_add, jI_sub, jI_mul, jI_neg, jI_of, jI_to, j_le0, j_ge0, j_lt0, j_gt0, j_eq0, q_dvl, qz0, qz1, qz2, qz3, if_pos, if_neg, reduceIte, D1.fo, e2, m_isOut, m_isIn]
  · refine ⟨iI (-1), M, L, gs_up M 147 0 (iI 0), L, ?_, ?_, hI0.ag (ma_g0 iv_ag.rf _)⟩
    · unfold f_X11_years
      simp (disch := omega) only [qn0, qn1, qn2, qn3, qn4, qn5, qn6, qn7, qn8, qn9, qn10, qn11, qn12, qn13, qn14, qn15, qn16, qn17, qn18, qn24, qn30, qn31, qn32, qn33, qn36, qn38, qn40, qn41, qn42, qn43, qn45, qn47, qn48, qn49, qn50, qn51, qn52, qn53, qn57, qn58, qn59, qn60, qn61, qn62, qn63, qn91, qn93, qn97, qn99, qn100, qn103, qn104, qn112, qn113, qn115, qn116, qn118, qn119, qn121, qn124, qn173, qn177, qn240, qn255, qn295, qn352, qn353, qn533, qn999, qn1000, qn1023, qn6561, qn10000, qn20787, qn1000000, qn252645135, qn858993459, qn1000000000, qn1431655765, q_s1, q_s2, q_s3, q_s4, q_s5, iI_add, iI_sub, iI_mul, iI_neg, q_lt, q_le, q_eq, qz0, qz1, qz2, qz3, if_pos, if_neg, reduceIte, c_town1 w C c.1, e1]
    · unfold f_X12_years
      simp (disch := omega) only [qn0, qn1, qn2, qn3, qn4, qn5, qn6, qn7, qn8, qn9, qn10, qn11, qn12, qn13, qn14, qn15, qn16, qn17, qn18, qn24, qn30, qn31, qn32, qn33, qn36, qn38, qn40, qn41, qn42, qn43, qn45, qn47, qn48, qn49, qn50, qn51, qn52, qn53, qn57, qn58, qn59, qn60, qn61, qn62, qn63, qn91, qn93, qn97, qn99, qn100, qn103, qn104, qn112, qn113, qn115, qn116, qn118, qn119, qn121, qn124, qn173, qn177, qn240, qn255, qn295, qn352, qn353, qn533, qn999, qn1000, qn1023, qn6561, qn10000, qn20787, qn1000000, qn252645135, qn858993459, qn1000000000, qn1431655765, qj0, qj1, qj2, qj4, qj7, qj8, qj9, qj10, qj30, qj100, qj1000, qj1000000, qj1000000000, qj1442695040888963407, qj6364136223846793005, q_s1, q_s2, q_s3, q_s4, q_s5, iI_add, iI_sub, iI_mul, iI_neg, q_lt, q_le, q_eq, jI_add, jI_sub, jI_mul, jI_neg, jI_of, jI_to, j_le0, j_ge0, j_lt0, j_gt0, j_eq0, q_dvl, qz0, qz1, qz2, qz3, if_pos, if_neg, reduceIte, D1.fo, e2, m_isOut, m_isIn]
  · refine ⟨iI (-1), M, L, gs_up M 147 0 (iI 0), L, ?_, ?_, hI0.ag (ma_g0 iv_ag.rf _)⟩
    · unfold f_X11_years
      simp (disch := omega) only [qn0, qn1, qn2, qn3, qn4, qn5, qn6, qn7, qn8, qn9, qn10, qn11, qn12, qn13, qn14, qn15, qn16, qn17, qn18, qn24, qn30, qn31, qn32, qn33, qn36, qn38, qn40, qn41, qn42, qn43, qn45, qn47, qn48, qn49, qn50, qn51, qn52, qn53, qn57, qn58, qn59, qn60, qn61, qn62, qn63, qn91, qn93, qn97, qn99, qn100, qn103, qn104, qn112, qn113, qn115, qn116, qn118, qn119, qn121, qn124, qn173, qn177, qn240, qn255, qn295, qn352, qn353, qn533, qn999, qn1000, qn1023, qn6561, qn10000, qn20787, qn1000000, qn252645135, qn858993459, qn1000000000, qn1431655765, q_s1, q_s2, q_s3, q_s4, q_s5, iI_add, iI_sub, iI_mul, iI_neg, q_lt, q_le, q_eq, qz0, qz1, qz2, qz3, if_pos, if_neg, reduceIte, c_town1 w C c.1, e1]
    · unfold f_X12_years
      simp (disch := omega) only [qn0, qn1, qn2, qn3, qn4, qn5, qn6, qn7, qn8, qn9, qn10, qn11, qn12, qn13, qn14, qn15, qn16, qn17, qn18, qn24, qn30, qn31, qn32, qn33, qn36, qn38, qn40, qn41, qn42, qn43, qn45, qn47, qn48, qn49, qn50, qn51, qn52, qn53, qn57, qn58, qn59, qn60, qn61, qn62, qn63, qn91, qn93, qn97, qn99, qn100, qn103, qn104, qn112, qn113, qn115, qn116, qn118, qn119, qn121, qn124, qn173, qn177, qn240, qn255, qn295, qn352, qn353, qn533, qn999, qn1000, qn1023, qn6561, qn10000, qn20787, qn1000000, qn252645135, qn858993459, qn1000000000, qn1431655765, qj0, qj1, qj2, qj4, qj7, qj8, qj9, qj10, qj30, qj100, qj1000, qj1000000, qj1000000000, qj1442695040888963407, qj6364136223846793005, q_s1, q_s2, q_s3, q_s4, q_s5, iI_add, iI_sub, iI_mul, iI_neg, q_lt, q_le, q_eq, jI_add, jI_sub, jI_mul, jI_neg, jI_of, jI_to, j_le0, j_ge0, j_lt0, j_gt0, j_eq0, q_dvl, qz0, qz1, qz2, qz3, if_pos, if_neg, reduceIte, D1.fo, e2, m_isOut, m_isIn]
  · obtain ⟨n, rfl⟩ : ∃ n : Nat, z = n := ⟨z.toNat, by omega⟩
    have hc : ∃ M1 L1, l_X11_years_46 (iI n) x2 gs_FU (iI 0) M (gs_upl L 132 5 x2) = some (iI n, M1, L1) ∧ ma_C (ma_ys V n (s, T, x2)).1 (ma_ys V n (s, T, x2)).2.1 V M1 ∧ iv_hi M M1 := by
      obtain ⟨r, e, M1, L1, rfl, h1, h2, h3⟩ := ma_up0 (fun f i (k : gs_M × gs_L) => l_X11_years_46 (iI n) x2 f i k.1 k.2) n
        (fun i k => ma_C (ma_ys V i (s, T, x2)).1 (ma_ys V i (s, T, x2)).2.1 V k.1 ∧ k.2 132 5 = (ma_ys V i (s, T, x2)).2.2 ∧ iv_hi M k.1)
        (fun r => ∃ M1 L1, r = (iI n, M1, L1) ∧ ma_C (ma_ys V n (s, T, x2)).1 (ma_ys V n (s, T, x2)).2.1 V M1 ∧ L1 132 5 = (ma_ys V n (s, T, x2)).2.2 ∧ iv_hi M M1) (M, gs_upl L 132 5 x2) (by omega) ⟨C, ma_upl_eq L 132 5 x2, iv_hi.rf⟩
        (by
          rintro f i ⟨N, L0⟩ hi ⟨hC, hx, hg⟩
          left
          simp only at hC hx hg
          obtain ⟨Wi, h48, h30⟩ := ma_ys_w W (show 0 < T 3 0 by omega) x2 (k := i) (by omega)
          obtain ⟨N1, k1, C1, g1⟩ := c_keep Wi hC
          obtain ⟨N2, L2, k2, C2, x3, g2⟩ := c_yr Wi.push C1 (show 0 < (ma_ys V i (s, T, x2)).2.1 3 0 by omega) L0
          rw [hx] at C2 x3
          have cr := C1.cr
          refine ⟨(N2, L2), ?_, C2, x3, (hg.tr g1).tr g2⟩
          simp only [l_X11_years_46]
          simp (disch := omega) only [qn0, qn1, qn2, qn3, qn4, qn5, qn6, qn7, qn8, qn9, qn10, qn11, qn12, qn13, qn14, qn15, qn16, qn17, qn18, qn24, qn30, qn31, qn32, qn33, qn36, qn38, qn40, qn41, qn42, qn43, qn45, qn47, qn48, qn49, qn50, qn51, qn52, qn53, qn57, qn58, qn59, qn60, qn61, qn62, qn63, qn91, qn93, qn97, qn99, qn100, qn103, qn104, qn112, qn113, qn115, qn116, qn118, qn119, qn121, qn124, qn173, qn177, qn240, qn255, qn295, qn352, qn353, qn533, qn999, qn1000, qn1023, qn6561, qn10000, qn20787, qn1000000, qn252645135, qn858993459, qn1000000000, qn1431655765, q_s1, q_s2, q_s3, q_s4, q_s5, iI_add, iI_sub, iI_mul, iI_neg, q_lt, q_le, q_eq, qz0, qz1, qz2, qz3, if_pos, if_neg, reduceIte, k1, cr, k2])
        (by
          rintro f ⟨N, L0⟩ ⟨hC, hx, hg⟩
          refine ⟨_, ?_, N, L0, rfl, hC, hx, hg⟩
          simp only [l_X11_years_46]
          simp (disch := omega) only [qn0, qn1, qn2, qn3, qn4, qn5, qn6, qn7, qn8, qn9, qn10, qn11, qn12, qn13, qn14, qn15, qn16, qn17, qn18, qn24, qn30, qn31, qn32, qn33, qn36, qn38, qn40, qn41, qn42, qn43, qn45, qn47, qn48, qn49, qn50, qn51, qn52, qn53, qn57, qn58, qn59, qn60, qn61, qn62, qn63, qn91, qn93, qn97, qn99, qn100, qn103, qn104, qn112, qn113, qn115, qn116, qn118, qn119, qn121, qn124, qn173, qn177, qn240, qn255, qn295, qn352, qn353, qn533, qn999, qn1000, qn1023, qn6561, qn10000, qn20787, qn1000000, qn252645135, qn858993459, qn1000000000, qn1431655765, q_s1, q_s2, q_s3, q_s4, q_s5, iI_add, iI_sub, iI_mul, iI_neg, q_lt, q_le, q_eq, qz0, qz1, qz2, qz3, if_pos, if_neg, reduceIte])
      exact ⟨M1, L1, e, h1, h3⟩
    obtain ⟨M1, L1, k1, C1, g1⟩ := hc
    have D2 := ma_D0 (D.hi w g1) w (iI 0)
    have hm : ∃ M2 L2, l_X12_years_49 (iI n) x2 gs_FU (iI 0) (gs_up M1 147 0 (iI 0)) (gs_upl L1 147 32 x2) = some (iI n, M2, L2) ∧ ma_M (ma_ys V n (s, T, x2)).1 (ma_ys V n (s, T, x2)).2.1 V M2 ∧ iv_lo (gs_up M1 147 0 (iI 0)) M2 := by
      obtain ⟨r, e, M2, L2, rfl, h1, h2, h3⟩ := ma_up0 (fun f i (k : gs_M × gs_L) => l_X12_years_49 (iI n) x2 f i k.1 k.2) n
        (fun i k => ma_M (ma_ys V i (s, T, x2)).1 (ma_ys V i (s, T, x2)).2.1 V k.1 ∧ k.2 147 32 = (ma_ys V i (s, T, x2)).2.2 ∧ iv_lo (gs_up M1 147 0 (iI 0)) k.1)
        (fun r => ∃ M2 L2, r = (iI n, M2, L2) ∧ ma_M (ma_ys V n (s, T, x2)).1 (ma_ys V n (s, T, x2)).2.1 V M2 ∧ L2 147 32 = (ma_ys V n (s, T, x2)).2.2 ∧ iv_lo (gs_up M1 147 0 (iI 0)) M2) (gs_up M1 147 0 (iI 0), gs_upl L1 147 32 x2) (by omega) ⟨D2, ma_upl_eq L1 147 32 x2, iv_lo.rf⟩
        (by
          rintro f i ⟨N, L0⟩ hi ⟨hC, hx, hg⟩
          left
          simp only at hC hx hg
          obtain ⟨Wi, h48, h30⟩ := ma_ys_w W (show 0 < T 3 0 by omega) x2 (k := i) (by omega)
          obtain ⟨N1, k1, C1, g1⟩ := m_rem Wi hC
          obtain ⟨N2, L2, k2, C2, x3, g2⟩ := m_yr Wi.push C1 (show 0 < (ma_ys V i (s, T, x2)).2.1 3 0 by omega) L0
          rw [hx] at C2 x3
          refine ⟨(N2, L2), ?_, C2, x3, (hg.tr g1).tr g2⟩
          obtain ⟨a1, a2, b1, k2⟩ := gs_o2 k2
          obtain ⟨a3, a4, b2, k2⟩ := gs_o2 k2
          obtain ⟨a5, b3, k2⟩ := gs_o1 k2
          obtain ⟨a6, a7, b4, k2⟩ := gs_o2 k2
          obtain ⟨a8, a9, b5, k2⟩ := gs_o2 k2
          simp only [l_X12_years_49]
          simp (disch := omega) only [q_le, qn0, qn1, qn3, qn6, qn9, qn10, q_s1, q_s2, if_neg, k1, b1, b2, b3, b4, b5, k2, iI_add])
        (by
          rintro f ⟨N, L0⟩ ⟨hC, hx, hg⟩
          refine ⟨_, ?_, N, L0, rfl, hC, hx, hg⟩
          simp only [l_X12_years_49]
          simp (disch := omega) only [qn0, qn1, qn2, qn3, qn4, qn5, qn6, qn7, qn8, qn9, qn10, qn11, qn12, qn13, qn14, qn15, qn16, qn17, qn18, qn24, qn30, qn31, qn32, qn33, qn36, qn38, qn40, qn41, qn42, qn43, qn45, qn47, qn48, qn49, qn50, qn51, qn52, qn53, qn57, qn58, qn59, qn60, qn61, qn62, qn63, qn91, qn93, qn97, qn99, qn100, qn103, qn104, qn112, qn113, qn115, qn116, qn118, qn119, qn121, qn124, qn173, qn177, qn240, qn255, qn295, qn352, qn353, qn533, qn999, qn1000, qn1023, qn6561, qn10000, qn20787, qn1000000, qn252645135, qn858993459, qn1000000000, qn1431655765, q_s1, q_s2, q_s3, q_s4, q_s5, iI_add, iI_sub, iI_mul, iI_neg, q_lt, q_le, q_eq, qz0, qz1, qz2, qz3, if_pos, if_neg, reduceIte])
      exact ⟨M2, L2, e, h1, h3⟩
    obtain ⟨M2, L2, k2, D3, g2⟩ := hm
    obtain ⟨Wn, h48, h30⟩ := ma_ys_w W (show 0 < T 3 0 by omega) x2 (k := n) (by omega)
    have e3 := c_now0 C1.st
    have e4 := m_c48 D3.st
    have e5 := m_c48 D2.st
    refine ⟨iI ((ma_ys V n (s, T, x2)).1 48), M1, L1, M2, L2, ?_, ?_, (ma_ys V n (s, T, x2)).1, (ma_ys V n (s, T, x2)).2.1, V, Wn, C1.lo Wn.2.1 ((iv_lo.rf.up _ (by decide)).tr g2), D3⟩
    · unfold f_X11_years f_X5_sow
      simp (disch := omega) only [qn0, qn1, qn2, qn3, qn4, qn5, qn6, qn7, qn8, qn9, qn10, qn11, qn12, qn13, qn14, qn15, qn16, qn17, qn18, qn24, qn30, qn31, qn32, qn33, qn36, qn38, qn40, qn41, qn42, qn43, qn45, qn47, qn48, qn49, qn50, qn51, qn52, qn53, qn57, qn58, qn59, qn60, qn61, qn62, qn63, qn91, qn93, qn97, qn99, qn100, qn103, qn104, qn112, qn113, qn115, qn116, qn118, qn119, qn121, qn124, qn173, qn177, qn240, qn255, qn295, qn352, qn353, qn533, qn999, qn1000, qn1023, qn6561, qn10000, qn20787, qn1000000, qn252645135, qn858993459, qn1000000000, qn1431655765, q_s1, q_s2, q_s3, q_s4, q_s5, iI_add, iI_sub, iI_mul, iI_neg, q_lt, q_le, q_eq, qz0, qz1, qz2, qz3, if_pos, if_neg, reduceIte, c_town1 w C c.1, e1, k1, e3]
    · unfold f_X12_years
      simp (disch := omega) only [qn0, qn1, qn2, qn3, qn4, qn5, qn6, qn7, qn8, qn9, qn10, qn11, qn12, qn13, qn14, qn15, qn16, qn17, qn18, qn24, qn30, qn31, qn32, qn33, qn36, qn38, qn40, qn41, qn42, qn43, qn45, qn47, qn48, qn49, qn50, qn51, qn52, qn53, qn57, qn58, qn59, qn60, qn61, qn62, qn63, qn91, qn93, qn97, qn99, qn100, qn103, qn104, qn112, qn113, qn115, qn116, qn118, qn119, qn121, qn124, qn173, qn177, qn240, qn255, qn295, qn352, qn353, qn533, qn999, qn1000, qn1023, qn6561, qn10000, qn20787, qn1000000, qn252645135, qn858993459, qn1000000000, qn1431655765, qj0, qj1, qj2, qj4, qj7, qj8, qj9, qj10, qj30, qj100, qj1000, qj1000000, qj1000000000, qj1442695040888963407, qj6364136223846793005, q_s1, q_s2, q_s3, q_s4, q_s5, iI_add, iI_sub, iI_mul, iI_neg, q_lt, q_le, q_eq, jI_add, jI_sub, jI_mul, jI_neg, jI_of, jI_to, j_le0, j_ge0, j_lt0, j_gt0, j_eq0, q_dvl, qz0, qz1, qz2, qz3, if_pos, if_neg, reduceIte, D2.fo, m_isIn, e5, k2, e4]
