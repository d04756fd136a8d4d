/-! THE BOOK and the LOG: a row is put behind the others; a PERSON's HOURS leave -/
def ma_sx (s : Nat → Int) (o n d : Nat) : Nat → Int := fun j => if o ≤ j ∧ j < o + n then s (j + d) else s j
section Book
variable {s s' : Nat → Int} {T T' : Nat → Nat → Int} {V V' : ma_V} {M M1 M2 : gs_M}
theorem q_orsh {x y k : Nat} (hx : x < 2 ^ k) (hk : k < 31) (hy : y * 2 ^ k < 2147483648) : iI x ||| (iI y <<< (iI k &&& iI 31)) = iI ((x + 2 ^ k * y : Nat) : Int) := by
  have e := pk_shlN (n := y) (nI k &&& 31) k (q_sl k (by omega)) (by omega)
  have e2 : iI y <<< (iI k &&& iI 31) = iI ((y * 2 ^ k : Nat) : Int) := e
  rw [e2, b_or, Nat.or_comm, Nat.mul_comm y, ← Nat.two_pow_add_eq_or_of_lt hx, Nat.add_comm]
theorem ma_su5 {k1 k2 k3 k4 k5 k6 j : Nat} {v1 v2 v3 v4 v5 v6 : Int} (h : j ≠ k1 ∧ j ≠ k2 ∧ j ≠ k3 ∧ j ≠ k4 ∧ j ≠ k5 ∧ j ≠ k6) : ma_su (ma_su (ma_su (ma_su (ma_su (ma_su s k1 v1) k2 v2) k3 v3) k4 v4) k5 v5) k6 v6 j = s j := by
  rw [ma_su_ne _ _ (by omega), ma_su_ne _ _ (by omega), ma_su_ne _ _ (by omega), ma_su_ne _ _ (by omega), ma_su_ne _ _ (by omega), ma_su_ne _ _ (by omega)]
def ma_b1 (s : Nat → Int) : Nat → Int := if s 51 < 60 then s else ma_su (ma_sx s 52 295 5) 51 59
theorem ma_b1_o (s : Nat → Int) {j : Nat} (hj : (j < 52 ∧ j ≠ 51) ∨ 352 ≤ j) : ma_b1 s j = s j := by
  unfold ma_b1
  by_cases c : s 51 < 60
  · rw [if_pos c]
  · rw [if_neg c, ma_su_ne _ _ (by omega)]
    unfold ma_sx
    rw [if_neg (by omega)]
theorem ma_b1_c (s : Nat → Int) : ma_b1 s 51 = if s 51 < 60 then s 51 else 59 := by
  unfold ma_b1
  by_cases c : s 51 < 60
  · rw [if_pos c, if_pos c]
  · rw [if_neg c, if_neg c, ma_su_eq]
theorem ma_b1_n (s : Nat → Int) (c : s 51 < 60) : ma_b1 s = s := if_pos c
theorem ma_b1_p (s : Nat → Int) (c : ¬ s 51 < 60) {i j : Nat} (hi : i < 59) (hj : 52 ≤ j ∧ j < 52 + 5) : ma_b1 s (j + 5 * i) = s (j + 5 * (i + 1)) := by
  unfold ma_b1
  rw [if_neg c, ma_su_ne _ _ (by omega)]
  unfold ma_sx
  rw [if_pos (by omega)]
  congr 1
theorem ma_b1_k (s : Nat → Int) (c : ¬ s 51 < 60) {i : Nat} (hi : i < 59) : ma_bk (ma_b1 s) i = ma_bk s (i + 1) := by
  unfold ma_bk
  rw [ma_b1_p s c hi (j := 52) (by omega), ma_b1_p s c hi (j := 53) (by omega), ma_b1_p s c hi (j := 54) (by omega), ma_b1_p s c hi (j := 55) (by omega), ma_b1_p s c hi (j := 56) (by omega)]
theorem ma_b1_g (s : Nat → Int) (c : ¬ s 51 < 60) {i : Nat} (hi : i < 59) (h : ma_pg s (i + 1)) : ma_pg (ma_b1 s) i := by
  unfold ma_pg at *
  rw [ma_b1_p s c hi (j := 52) (by omega), ma_b1_p s c hi (j := 53) (by omega), ma_b1_p s c hi (j := 54) (by omega), ma_b1_p s c hi (j := 55) (by omega), ma_b1_p s c hi (j := 56) (by omega)]
  exact h
theorem ma_b1_ws (w : ma_ws s) : ma_ws (ma_b1 s) := by
  by_cases c : s 51 < 60
  · rw [ma_b1_n s c]; exact w
  obtain ⟨h1, h2, h3, h4, h5, h6⟩ := w
  refine ⟨fun q hq => ?_, ?_, ?_, ?_, fun i hi => ?_, fun i hi => ?_⟩
  · rw [ma_one_i]
    intro j hj
    rw [ma_b1_o s (by omega)]
    exact ma_one_i.1 (h1 q hq) j hj
  · rw [ma_b1_o s (by omega)]; exact h2
  · rw [ma_b1_c, if_neg c]; decide
  · rw [ma_b1_o s (by omega)]; exact h4
  · rw [ma_b1_c, if_neg c] at hi
    exact ma_b1_g s c (by omega) (h5 (i + 1) (by omega))
  · rw [ma_b1_o s (by omega)] at hi
    unfold ma_lr
    rw [ma_b1_o s (j := 353 + 3 * i) (by omega), ma_b1_o s (j := 354 + 3 * i) (by omega), ma_b1_o s (j := 355 + 3 * i) (by omega)]
    exact h6 i hi
theorem c_b1 (W : ma_W s T V) (C : ma_C s T V M) : ∃ M1, (gs_b1 (gs_rd M 10 173 (iI 51)) fun v1 => if v1 < iI 60 then some M else gs_b1 (gs_cpy M 10 173 (iI 53 + iI 1) 10 173 (iI 53) (iI 59)) fun M8 => gs_b1 (gs_wr M8 10 173 (iI 51) (iI 59)) fun M10 => some M10) = some M1 ∧ ma_C (ma_b1 s) T V M1 ∧ ∀ r, r ≠ 10 → M1 r = M r := by
  have w := W.2.1
  have w1 := W.1.2.2.1
  have e1 : gs_rd M 10 173 (iI 51) = some (iI (s 51)) := by
    rw [q_rdn (z := 51) 51 rfl (by decide) (by decide), C.st.2.1]
  by_cases c : s 51 < 60
  · refine ⟨M, ?_, by rw [ma_b1_n s c]; exact C, fun _ _ => rfl⟩
    simp (disch := omega) only [qn0, qn1, qn2, qn3, qn4, qn5, qn6, qn7, qn8, qn9, qn10, qn11, qn12, qn13, qn14, qn15, qn16, qn17, qn18, qn24, qn30, qn31, qn32, qn33, qn36, qn38, qn40, qn41, qn42, qn43, qn45, qn47, qn48, qn49, qn50, qn51, qn52, qn53, qn57, qn58, qn59, qn60, qn61, qn62, qn63, qn91, qn93, qn97, qn99, qn100, qn103, qn104, qn112, qn113, qn115, qn116, qn118, qn119, qn121, qn124, qn173, qn177, qn240, qn255, qn295, qn352, qn353, qn533, qn999, qn1000, qn1023, qn6561, qn10000, qn20787, qn1000000, qn252645135, qn858993459, qn1000000000, qn1431655765, q_s1, q_s2, q_s3, q_s4, q_s5, iI_add, iI_sub, iI_mul, iI_neg, q_lt, q_le, q_eq, qz0, qz1, qz2, qz3, if_pos, if_neg, reduceIte, e1]
  · have e2 : gs_cpy M 10 173 (iI (53 + 1)) 10 173 (iI 53) (iI 59) = some (gs_row M 10 (va_cpy (M 10) (M 10) 54 53 59)) := by
      unfold gs_cpy
      rw [if_neg (by decide)]
      rfl
    have e3 : ∀ N : gs_M, ∀ v, gs_wr N 10 173 (iI 51) v = some (gs_up N 10 51 v) := fun N v => q_wrn (z := 51) 51 rfl (by decide) (by decide)
    refine ⟨gs_up (gs_row M 10 (va_cpy (M 10) (M 10) 54 53 59)) 10 51 (iI 59), ?_, ?_, fun r h => ?_⟩
    · simp (disch := omega) only [qn0, qn1, qn2, qn3, qn4, qn5, qn6, qn7, qn8, qn9, qn10, qn11, qn12, qn13, qn14, qn15, qn16, qn17, qn18, qn24, qn30, qn31, qn32, qn33, qn36, qn38, qn40, qn41, qn42, qn43, qn45, qn47, qn48, qn49, qn50, qn51, qn52, qn53, qn57, qn58, qn59, qn60, qn61, qn62, qn63, qn91, qn93, qn97, qn99, qn100, qn103, qn104, qn112, qn113, qn115, qn116, qn118, qn119, qn121, qn124, qn173, qn177, qn240, qn255, qn295, qn352, qn353, qn533, qn999, qn1000, qn1023, qn6561, qn10000, qn20787, qn1000000, qn252645135, qn858993459, qn1000000000, qn1431655765, q_s1, q_s2, q_s3, q_s4, q_s5, iI_add, iI_sub, iI_mul, iI_neg, q_lt, q_le, q_eq, qz0, qz1, qz2, qz3, if_pos, if_neg, reduceIte, e1, e2, e3]
    · refine C.st2 w (fun a b _ h _ => ?_) ?_
      · rw [ma_cell_ne _ _ _ _ _ _ (fun z => h z.1), ma_rowr_ne _ _ _ _ h]
      · obtain ⟨h1, h2, h3, h4, h5⟩ := C.st
        have R : ∀ k, k ≠ 51 → (k < 53 ∨ 112 ≤ k) → gs_up (gs_row M 10 (va_cpy (M 10) (M 10) 54 53 59)) 10 51 (iI 59) 10 k = M 10 k := fun k k1 k2 => by
          rw [ma_cell_ne _ _ _ _ _ _ (by omega), ma_rowr_eq, pk_cpy_out (by omega)]
        have R2 : ∀ k, k < 59 → gs_up (gs_row M 10 (va_cpy (M 10) (M 10) 54 53 59)) 10 51 (iI 59) 10 (53 + k) = M 10 (53 + (k + 1)) := fun k k1 => by
          rw [ma_cell_ne _ _ _ _ _ _ (by omega), ma_rowr_eq, pk_cpy_in (by omega) (by omega)]
          congr 1
          omega
        refine ⟨fun j hj => ?_, ?_, ?_, fun i hi => ?_, fun i hi => ?_⟩
        · rw [R j (by omega) (by omega), ma_b1_o s (by omega)]; exact h1 j hj
        · rw [gs_up_eq, ma_b1_c, if_neg c]
        · rw [R 52 (by decide) (by decide), ma_b1_o s (by omega)]; exact h3
        · rw [ma_b1_c, if_neg c] at hi
          rw [R2 i (by omega), ma_b1_k s c (by omega)]
          exact h4 (i + 1) (by omega)
        · rw [ma_b1_o s (by omega)] at hi
          rw [R _ (by omega) (by omega), h5 i hi]
          unfold ma_lg
          rw [ma_b1_o s (j := 353 + 3 * i) (by omega), ma_b1_o s (j := 354 + 3 * i) (by omega), ma_b1_o s (j := 355 + 3 * i) (by omega)]
    · rw [ma_row_ne _ _ _ _ _ h, ma_rowr_ne _ _ _ _ h]
theorem m_b1 (W : ma_W s T V) (D : ma_M s T V M) (x1 x2 x3 : Int32) : ∃ M1, (gs_b1 (gs_rd M 158 533 (iI 51)) fun v1 => if v1 = iI 60 then gs_b2 (l_X12_write_15 x1 x2 x3 gs_FU (iI 1) M) fun _ M8 => gs_b1 (gs_rd M8 158 533 (iI 51)) fun v10 => gs_b1 (gs_wr M8 158 533 (iI 51) (v10 - iI 1)) fun M13 => some M13 else some M) = some M1 ∧ ma_M (ma_b1 s) T V M1 ∧ ∀ r, r ≠ 158 → M1 r = M r := by
  have w := W.2.1
  have w1 := W.1.2.2.1
  have e1 : gs_rd M 158 533 (iI 51) = some (iI (s 51)) := m_cell D.st (by decide)
  by_cases c : s 51 < 60
  · refine ⟨M, ?_, by rw [ma_b1_n s c]; exact D, fun _ _ => rfl⟩
    simp (disch := omega) only [qn0, qn1, qn2, qn3, qn4, qn5, qn6, qn7, qn8, qn9, qn10, qn11, qn12, qn13, qn14, qn15, qn16, qn17, qn18, qn24, qn30, qn31, qn32, qn33, qn36, qn38, qn40, qn41, qn42, qn43, qn45, qn47, qn48, qn49, qn50, qn51, qn52, qn53, qn57, qn58, qn59, qn60, qn61, qn62, qn63, qn91, qn93, qn97, qn99, qn100, qn103, qn104, qn112, qn113, qn115, qn116, qn118, qn119, qn121, qn124, qn173, qn177, qn240, qn255, qn295, qn352, qn353, qn533, qn999, qn1000, qn1023, qn6561, qn10000, qn20787, qn1000000, qn252645135, qn858993459, qn1000000000, qn1431655765, q_s1, q_s2, q_s3, q_s4, q_s5, iI_add, iI_sub, iI_mul, iI_neg, q_lt, q_le, q_eq, qz0, qz1, qz2, qz3, if_pos, if_neg, reduceIte, e1]
  · have c60 : s 51 = 60 := by omega
    obtain ⟨N, e2, hN⟩ := ma_cpl (l_X12_write_15 x1 x2 x3) 1 296 158 56 158 51 M (Or.inr (by decide)) (by decide) (by decide)
      (by
        intro f i N' hi0 hi hN
        have e1 : gs_rd N' 158 533 (iI (51 + i + 5)) = some (N' 158 (56 + i)) := q_rdn (56 + i) (by omega) (by omega) (by decide)
        have e2 : ∀ v, gs_wr N' 158 533 (iI (51 + i)) v = some (gs_up N' 158 (51 + i) v) := fun v => q_wrn _ (by omega) (by omega) (by decide)
        simp only [l_X12_write_15]
        simp (disch := omega) only [qn0, qn1, qn2, qn3, qn4, qn5, qn6, qn7, qn8, qn9, qn10, qn11, qn12, qn13, qn14, qn15, qn16, qn17, qn18, qn24, qn30, qn31, qn32, qn33, qn36, qn38, qn40, qn41, qn42, qn43, qn45, qn47, qn48, qn49, qn50, qn51, qn52, qn53, qn57, qn58, qn59, qn60, qn61, qn62, qn63, qn91, qn93, qn97, qn99, qn100, qn103, qn104, qn112, qn113, qn115, qn116, qn118, qn119, qn121, qn124, qn173, qn177, qn240, qn255, qn295, qn352, qn353, qn533, qn999, qn1000, qn1023, qn6561, qn10000, qn20787, qn1000000, qn252645135, qn858993459, qn1000000000, qn1431655765, q_s1, q_s2, q_s3, q_s4, q_s5, iI_add, iI_sub, iI_mul, iI_neg, q_lt, q_le, q_eq, qz0, qz1, qz2, qz3, if_pos, if_neg, reduceIte, e1, e2])
      (by
        intro f N' hN
        simp only [l_X12_write_15]
        simp (disch := omega) only [qn0, qn1, qn2, qn3, qn4, qn5, qn6, qn7, qn8, qn9, qn10, qn11, qn12, qn13, qn14, qn15, qn16, qn17, qn18, qn24, qn30, qn31, qn32, qn33, qn36, qn38, qn40, qn41, qn42, qn43, qn45, qn47, qn48, qn49, qn50, qn51, qn52, qn53, qn57, qn58, qn59, qn60, qn61, qn62, qn63, qn91, qn93, qn97, qn99, qn100, qn103, qn104, qn112, qn113, qn115, qn116, qn118, qn119, qn121, qn124, qn173, qn177, qn240, qn255, qn295, qn352, qn353, qn533, qn999, qn1000, qn1023, qn6561, qn10000, qn20787, qn1000000, qn252645135, qn858993459, qn1000000000, qn1431655765, q_s1, q_s2, q_s3, q_s4, q_s5, iI_add, iI_sub, iI_mul, iI_neg, q_lt, q_le, q_eq, qz0, qz1, qz2, qz3, if_pos, if_neg, reduceIte])
    have e2' : l_X12_write_15 x1 x2 x3 gs_FU (iI 1) M = some (iI 296, N) := e2
    have e3 : N 158 51 = iI 60 := by
      rw [hN, if_neg (by omega), D.st _ (by decide), c60]
    have e4 : gs_rd N 158 533 (iI 51) = some (iI 60) := by
      rw [q_rdn (z := 51) 51 rfl (by decide) (by decide), e3]
    have e5 : ∀ v, gs_wr N 158 533 (iI 51) v = some (gs_up N 158 51 v) := fun v => q_wrn (z := 51) 51 rfl (by decide) (by decide)
    refine ⟨gs_up N 158 51 (iI 59), ?_, ?_, fun r h => ?_⟩
    · simp (disch := omega) only [qn0, qn1, qn2, qn3, qn4, qn5, qn6, qn7, qn8, qn9, qn10, qn11, qn12, qn13, qn14, qn15, qn16, qn17, qn18, qn24, qn30, qn31, qn32, qn33, qn36, qn38, qn40, qn41, qn42, qn43, qn45, qn47, qn48, qn49, qn50, qn51, qn52, qn53, qn57, qn58, qn59, qn60, qn61, qn62, qn63, qn91, qn93, qn97, qn99, qn100, qn103, qn104, qn112, qn113, qn115, qn116, qn118, qn119, qn121, qn124, qn173, qn177, qn240, qn255, qn295, qn352, qn353, qn533, qn999, qn1000, qn1023, qn6561, qn10000, qn20787, qn1000000, qn252645135, qn858993459, qn1000000000, qn1431655765, q_s1, q_s2, q_s3, q_s4, q_s5, iI_add, iI_sub, iI_mul, iI_neg, q_lt, q_le, q_eq, qz0, qz1, qz2, qz3, if_pos, if_neg, reduceIte, e1, c60, e2', e4, e5, Int.reduceSub]
    · have D1 : ma_M (ma_sx s 52 295 5) T V N := by
        refine D.st2 w (fun a b _ h _ => by rw [hN, if_neg (fun z => h z.1)]) (fun k hk => ?_)
        rw [hN]
        unfold ma_sx
        by_cases d : 52 ≤ k ∧ k < 52 + 295
        · rw [if_pos ⟨rfl, by omega, by omega⟩, if_pos d, D.st _ (by omega), show 56 + (k - 51) = k + 5 by omega]
        · rw [if_neg (by omega), if_neg d]
          exact D.st k hk
      have D2 := D1.su w 51 59
      unfold ma_b1
      rw [if_neg c]
      exact D2
    · rw [ma_row_ne _ _ _ _ _ h]
      funext y
      rw [hN, if_neg (fun z => h z.1)]

def ma_l1 (s : Nat → Int) : Nat → Int := if s 352 < 60 then s else ma_su (ma_sx s 353 177 3) 352 59
theorem ma_l1_o (s : Nat → Int) {j : Nat} (hj : (j < 353 ∧ j ≠ 352) ∨ 533 ≤ j) : ma_l1 s j = s j := by
  unfold ma_l1
  by_cases c : s 352 < 60
  · rw [if_pos c]
  · rw [if_neg c, ma_su_ne _ _ (by omega)]
    unfold ma_sx
    rw [if_neg (by omega)]
theorem ma_l1_c (s : Nat → Int) : ma_l1 s 352 = if s 352 < 60 then s 352 else 59 := by
  unfold ma_l1
  by_cases c : s 352 < 60
  · rw [if_pos c, if_pos c]
  · rw [if_neg c, if_neg c, ma_su_eq]
theorem ma_l1_n (s : Nat → Int) (c : s 352 < 60) : ma_l1 s = s := if_pos c
theorem ma_l1_p (s : Nat → Int) (c : ¬ s 352 < 60) {i j : Nat} (hi : i < 59) (hj : 353 ≤ j ∧ j < 353 + 3) : ma_l1 s (j + 3 * i) = s (j + 3 * (i + 1)) := by
  unfold ma_l1
  rw [if_neg c, ma_su_ne _ _ (by omega)]
  unfold ma_sx
  rw [if_pos (by omega)]
  congr 1
theorem ma_l1_k (s : Nat → Int) (c : ¬ s 352 < 60) {i : Nat} (hi : i < 59) : ma_lg (ma_l1 s) i = ma_lg s (i + 1) := by
  unfold ma_lg
  rw [ma_l1_p s c hi (j := 353) (by omega), ma_l1_p s c hi (j := 354) (by omega), ma_l1_p s c hi (j := 355) (by omega)]
theorem ma_l1_g (s : Nat → Int) (c : ¬ s 352 < 60) {i : Nat} (hi : i < 59) (h : ma_lr s (i + 1)) : ma_lr (ma_l1 s) i := by
  unfold ma_lr at *
  rw [ma_l1_p s c hi (j := 353) (by omega), ma_l1_p s c hi (j := 354) (by omega), ma_l1_p s c hi (j := 355) (by omega)]
  exact h
theorem ma_l1_ws (w : ma_ws s) : ma_ws (ma_l1 s) := by
  by_cases c : s 352 < 60
  · rw [ma_l1_n s c]; exact w
  obtain ⟨h1, h2, h3, h4, h5, h6⟩ := w
  refine ⟨fun q hq => ?_, ?_, ?_, ?_, fun i hi => ?_, fun i hi => ?_⟩
  · rw [ma_one_i]
    intro j hj
    rw [ma_l1_o s (by omega)]
    exact ma_one_i.1 (h1 q hq) j hj
  · rw [ma_l1_o s (by omega)]; exact h2
  · rw [ma_l1_o s (by omega)]; exact h3
  · rw [ma_l1_c, if_neg c]; decide
  · rw [ma_l1_o s (by omega)] at hi
    unfold ma_pg
    rw [ma_l1_o s (j := 52 + 5 * i) (by omega), ma_l1_o s (j := 53 + 5 * i) (by omega), ma_l1_o s (j := 54 + 5 * i) (by omega), ma_l1_o s (j := 55 + 5 * i) (by omega), ma_l1_o s (j := 56 + 5 * i) (by omega)]
    exact h5 i hi
  · rw [ma_l1_c, if_neg c] at hi
    exact ma_l1_g s c (by omega) (h6 (i + 1) (by omega))
theorem c_l1 (W : ma_W s T V) (C : ma_C s T V M) : ∃ M1, (gs_b1 (gs_rd M 10 173 (iI 52)) fun v1 => if v1 < iI 60 then some M else gs_b1 (gs_cpy M 10 173 (iI 113 + iI 1) 10 173 (iI 113) (iI 59)) fun M8 => gs_b1 (gs_wr M8 10 173 (iI 52) (iI 59)) fun M10 => some M10) = some M1 ∧ ma_C (ma_l1 s) T V M1 ∧ ∀ r, r ≠ 10 → M1 r = M r := by
  have w := W.2.1
  have w1 := W.1.2.2.2.1
  have e1 : gs_rd M 10 173 (iI 52) = some (iI (s 352)) := by
    rw [q_rdn (z := 52) 52 rfl (by decide) (by decide), C.st.2.2.1]
  by_cases c : s 352 < 60
  · refine ⟨M, ?_, by rw [ma_l1_n s c]; exact C, fun _ _ => rfl⟩
    simp (disch := omega) only [qn0, qn1, qn2, qn3, qn4, qn5, qn6, qn7, qn8, qn9, qn10, qn11, qn12, qn13, qn14, qn15, qn16, qn17, qn18, qn24, qn30, qn31, qn32, qn33, qn36, qn38, qn40, qn41, qn42, qn43, qn45, qn47, qn48, qn49, qn50, qn51, qn52, qn53, qn57, qn58, qn59, qn60, qn61, qn62, qn63, qn91, qn93, qn97, qn99, qn100, qn103, qn104, qn112, qn113, qn115, qn116, qn118, qn119, qn121, qn124, qn173, qn177, qn240, qn255, qn295, qn352, qn353, qn533, qn999, qn1000, qn1023, qn6561, qn10000, qn20787, qn1000000, qn252645135, qn858993459, qn1000000000, qn1431655765, q_s1, q_s2, q_s3, q_s4, q_s5, iI_add, iI_sub, iI_mul, iI_neg, q_lt, q_le, q_eq, qz0, qz1, qz2, qz3, if_pos, if_neg, reduceIte, e1]
  · have e2 : gs_cpy M 10 173 (iI (113 + 1)) 10 173 (iI 113) (iI 59) = some (gs_row M 10 (va_cpy (M 10) (M 10) 114 113 59)) := by
      unfold gs_cpy
      rw [if_neg (by decide)]
      rfl
    have e3 : ∀ N : gs_M, ∀ v, gs_wr N 10 173 (iI 52) v = some (gs_up N 10 52 v) := fun N v => q_wrn (z := 52) 52 rfl (by decide) (by decide)
    refine ⟨gs_up (gs_row M 10 (va_cpy (M 10) (M 10) 114 113 59)) 10 52 (iI 59), ?_, ?_, fun r h => ?_⟩
    · simp (disch := omega) only [qn0, qn1, qn2, qn3, qn4, qn5, qn6, qn7, qn8, qn9, qn10, qn11, qn12, qn13, qn14, qn15, qn16, qn17, qn18, qn24, qn30, qn31, qn32, qn33, qn36, qn38, qn40, qn41, qn42, qn43, qn45, qn47, qn48, qn49, qn50, qn51, qn52, qn53, qn57, qn58, qn59, qn60, qn61, qn62, qn63, qn91, qn93, qn97, qn99, qn100, qn103, qn104, qn112, qn113, qn115, qn116, qn118, qn119, qn121, qn124, qn173, qn177, qn240, qn255, qn295, qn352, qn353, qn533, qn999, qn1000, qn1023, qn6561, qn10000, qn20787, qn1000000, qn252645135, qn858993459, qn1000000000, qn1431655765, q_s1, q_s2, q_s3, q_s4, q_s5, iI_add, iI_sub, iI_mul, iI_neg, q_lt, q_le, q_eq, qz0, qz1, qz2, qz3, if_pos, if_neg, reduceIte, e1, e2, e3]
    · refine C.st2 w (fun a b _ h _ => ?_) ?_
      · rw [ma_cell_ne _ _ _ _ _ _ (fun z => h z.1), ma_rowr_ne _ _ _ _ h]
      · obtain ⟨h1, h2, h3, h4, h5⟩ := C.st
        have R : ∀ k, k ≠ 52 → (k < 113 ∨ 172 ≤ k) → gs_up (gs_row M 10 (va_cpy (M 10) (M 10) 114 113 59)) 10 52 (iI 59) 10 k = M 10 k := fun k k1 k2 => by
          rw [ma_cell_ne _ _ _ _ _ _ (by omega), ma_rowr_eq, pk_cpy_out (by omega)]
        have R2 : ∀ k, k < 59 → gs_up (gs_row M 10 (va_cpy (M 10) (M 10) 114 113 59)) 10 52 (iI 59) 10 (113 + k) = M 10 (113 + (k + 1)) := fun k k1 => by
          rw [ma_cell_ne _ _ _ _ _ _ (by omega), ma_rowr_eq, pk_cpy_in (by omega) (by omega)]
          congr 1
          omega
        refine ⟨fun j hj => ?_, ?_, ?_, fun i hi => ?_, fun i hi => ?_⟩
        · rw [R j (by omega) (by omega), ma_l1_o s (by omega)]; exact h1 j hj
        · rw [R 51 (by decide) (by decide), ma_l1_o s (by omega)]; exact h2
        · rw [gs_up_eq, ma_l1_c, if_neg c]
        · rw [ma_l1_o s (by omega)] at hi
          have w3 := W.1.2.2.1
          rw [R _ (by omega) (by omega), h4 i hi]
          unfold ma_bk
          rw [ma_l1_o s (j := 52 + 5 * i) (by omega), ma_l1_o s (j := 53 + 5 * i) (by omega), ma_l1_o s (j := 54 + 5 * i) (by omega), ma_l1_o s (j := 55 + 5 * i) (by omega), ma_l1_o s (j := 56 + 5 * i) (by omega)]
        · rw [ma_l1_c, if_neg c] at hi
          rw [R2 i (by omega), ma_l1_k s c (by omega)]
          exact h5 (i + 1) (by omega)
    · rw [ma_row_ne _ _ _ _ _ h, ma_rowr_ne _ _ _ _ h]
theorem m_l1 (W : ma_W s T V) (D : ma_M s T V M) (x1 x2 x3 : Int32) : ∃ M1, (gs_b1 (gs_rd M 158 533 (iI 352)) fun v1 => if v1 = iI 60 then gs_b2 (l_X12_judge_135 x1 x2 x3 gs_FU (iI 1) M) fun _ M8 => gs_b1 (gs_rd M8 158 533 (iI 352)) fun v10 => gs_b1 (gs_wr M8 158 533 (iI 352) (v10 - iI 1)) fun M13 => some M13 else some M) = some M1 ∧ ma_M (ma_l1 s) T V M1 ∧ ∀ r, r ≠ 158 → M1 r = M r := by
  have w := W.2.1
  have w1 := W.1.2.2.2.1
  have e1 : gs_rd M 158 533 (iI 352) = some (iI (s 352)) := m_cell D.st (by decide)
  by_cases c : s 352 < 60
  · refine ⟨M, ?_, by rw [ma_l1_n s c]; exact D, fun _ _ => rfl⟩
    simp (disch := omega) only [qn0, qn1, qn2, qn3, qn4, qn5, qn6, qn7, qn8, qn9, qn10, qn11, qn12, qn13, qn14, qn15, qn16, qn17, qn18, qn24, qn30, qn31, qn32, qn33, qn36, qn38, qn40, qn41, qn42, qn43, qn45, qn47, qn48, qn49, qn50, qn51, qn52, qn53, qn57, qn58, qn59, qn60, qn61, qn62, qn63, qn91, qn93, qn97, qn99, qn100, qn103, qn104, qn112, qn113, qn115, qn116, qn118, qn119, qn121, qn124, qn173, qn177, qn240, qn255, qn295, qn352, qn353, qn533, qn999, qn1000, qn1023, qn6561, qn10000, qn20787, qn1000000, qn252645135, qn858993459, qn1000000000, qn1431655765, q_s1, q_s2, q_s3, q_s4, q_s5, iI_add, iI_sub, iI_mul, iI_neg, q_lt, q_le, q_eq, qz0, qz1, qz2, qz3, if_pos, if_neg, reduceIte, e1]
  · have c60 : s 352 = 60 := by omega
    obtain ⟨N, e2, hN⟩ := ma_cpl (l_X12_judge_135 x1 x2 x3) 1 178 158 355 158 352 M (Or.inr (by decide)) (by decide) (by decide)
      (by
        intro f i N' hi0 hi hN
        have e1 : gs_rd N' 158 533 (iI (352 + i + 3)) = some (N' 158 (355 + i)) := q_rdn (355 + i) (by omega) (by omega) (by decide)
        have e2 : ∀ v, gs_wr N' 158 533 (iI (352 + i)) v = some (gs_up N' 158 (352 + i) v) := fun v => q_wrn _ (by omega) (by omega) (by decide)
        simp only [l_X12_judge_135]
        simp (disch := omega) only [qn0, qn1, qn2, qn3, qn4, qn5, qn6, qn7, qn8, qn9, qn10, qn11, qn12, qn13, qn14, qn15, qn16, qn17, qn18, qn24, qn30, qn31, qn32, qn33, qn36, qn38, qn40, qn41, qn42, qn43, qn45, qn47, qn48, qn49, qn50, qn51, qn52, qn53, qn57, qn58, qn59, qn60, qn61, qn62, qn63, qn91, qn93, qn97, qn99, qn100, qn103, qn104, qn112, qn113, qn115, qn116, qn118, qn119, qn121, qn124, qn173, qn177, qn240, qn255, qn295, qn352, qn353, qn533, qn999, qn1000, qn1023, qn6561, qn10000, qn20787, qn1000000, qn252645135, qn858993459, qn1000000000, qn1431655765, q_s1, q_s2, q_s3, q_s4, q_s5, iI_add, iI_sub, iI_mul, iI_neg, q_lt, q_le, q_eq, qz0, qz1, qz2, qz3, if_pos, if_neg, reduceIte, e1, e2])
      (by
        intro f N' hN
        simp only [l_X12_judge_135]
        simp (disch := omega) only [qn0, qn1, qn2, qn3, qn4, qn5, qn6, qn7, qn8, qn9, qn10, qn11, qn12, qn13, qn14, qn15, qn16, qn17, qn18, qn24, qn30, qn31, qn32, qn33, qn36, qn38, qn40, qn41, qn42, qn43, qn45, qn47, qn48, qn49, qn50, qn51, qn52, qn53, qn57, qn58, qn59, qn60, qn61, qn62, qn63, qn91, qn93, qn97, qn99, qn100, qn103, qn104, qn112, qn113, qn115, qn116, qn118, qn119, qn121, qn124, qn173, qn177, qn240, qn255, qn295, qn352, qn353, qn533, qn999, qn1000, qn1023, qn6561, qn10000, qn20787, qn1000000, qn252645135, qn858993459, qn1000000000, qn1431655765, q_s1, q_s2, q_s3, q_s4, q_s5, iI_add, iI_sub, iI_mul, iI_neg, q_lt, q_le, q_eq, qz0, qz1, qz2, qz3, if_pos, if_neg, reduceIte])
    have e2' : l_X12_judge_135 x1 x2 x3 gs_FU (iI 1) M = some (iI 178, N) := e2
    have e3 : N 158 352 = iI 60 := by
      rw [hN, if_neg (by omega), D.st _ (by decide), c60]
    have e4 : gs_rd N 158 533 (iI 352) = some (iI 60) := by
      rw [q_rdn (z := 352) 352 rfl (by decide) (by decide), e3]
    have e5 : ∀ v, gs_wr N 158 533 (iI 352) v = some (gs_up N 158 352 v) := fun v => q_wrn (z := 352) 352 rfl (by decide) (by decide)
    refine ⟨gs_up N 158 352 (iI 59), ?_, ?_, fun r h => ?_⟩
    · simp (disch := omega) only [qn0, qn1, qn2, qn3, qn4, qn5, qn6, qn7, qn8, qn9, qn10, qn11, qn12, qn13, qn14, qn15, qn16, qn17, qn18, qn24, qn30, qn31, qn32, qn33, qn36, qn38, qn40, qn41, qn42, qn43, qn45, qn47, qn48, qn49, qn50, qn51, qn52, qn53, qn57, qn58, qn59, qn60, qn61, qn62, qn63, qn91, qn93, qn97, qn99, qn100, qn103, qn104, qn112, qn113, qn115, qn116, qn118, qn119, qn121, qn124, qn173, qn177, qn240, qn255, qn295, qn352, qn353, qn533, qn999, qn1000, qn1023, qn6561, qn10000, qn20787, qn1000000, qn252645135, qn858993459, qn1000000000, qn1431655765, q_s1, q_s2, q_s3, q_s4, q_s5, iI_add, iI_sub, iI_mul, iI_neg, q_lt, q_le, q_eq, qz0, qz1, qz2, qz3, if_pos, if_neg, reduceIte, e1, c60, e2', e4, e5, Int.reduceSub]
    · have D1 : ma_M (ma_sx s 353 177 3) T V N := by
        refine D.st2 w (fun a b _ h _ => by rw [hN, if_neg (fun z => h z.1)]) (fun k hk => ?_)
        rw [hN]
        unfold ma_sx
        by_cases d : 353 ≤ k ∧ k < 353 + 177
        · rw [if_pos ⟨rfl, by omega, by omega⟩, if_pos d, D.st _ (by omega), show 355 + (k - 352) = k + 3 by omega]
        · rw [if_neg (by omega), if_neg d]
          exact D.st k hk
      have D2 := D1.su w 352 59
      unfold ma_l1
      rw [if_neg c]
      exact D2
    · rw [ma_row_ne _ _ _ _ _ h]
      funext y
      rw [hN, if_neg (fun z => h z.1)]

/-- a page behind the others -/
def ma_bw (s : Nat → Int) (h p a t : Int) : Nat → Int := ma_su (ma_su (ma_su (ma_su (ma_su (ma_su s (52 + 5 * (s 51).toNat) (s 48)) (53 + 5 * (s 51).toNat) h) (54 + 5 * (s 51).toNat) p) (55 + 5 * (s 51).toNat) a) (56 + 5 * (s 51).toNat) t) 51 (s 51 + 1)
theorem ma_bw_o {h p a t : Int} {j : Nat} (hj : j ≠ 51 ∧ (j < 52 + 5 * (s 51).toNat ∨ 57 + 5 * (s 51).toNat ≤ j)) : ma_bw s h p a t j = s j := ma_su5 (by omega)
theorem ma_bw_51 {h p a t : Int} : ma_bw s h p a t 51 = s 51 + 1 := ma_su_eq _ _ _
theorem ma_bw_p {h p a t : Int} : ma_bw s h p a t (52 + 5 * (s 51).toNat) = s 48 ∧ ma_bw s h p a t (53 + 5 * (s 51).toNat) = h ∧ ma_bw s h p a t (54 + 5 * (s 51).toNat) = p ∧ ma_bw s h p a t (55 + 5 * (s 51).toNat) = a ∧ ma_bw s h p a t (56 + 5 * (s 51).toNat) = t := by
  unfold ma_bw
  refine ⟨?_, ?_, ?_, ?_, ?_⟩
  · rw [ma_su_ne _ _ (by omega), ma_su_ne _ _ (by omega), ma_su_ne _ _ (by omega), ma_su_ne _ _ (by omega), ma_su_ne _ _ (by omega), ma_su_eq]
  · rw [ma_su_ne _ _ (by omega), ma_su_ne _ _ (by omega), ma_su_ne _ _ (by omega), ma_su_ne _ _ (by omega), ma_su_eq]
  · rw [ma_su_ne _ _ (by omega), ma_su_ne _ _ (by omega), ma_su_ne _ _ (by omega), ma_su_eq]
  · rw [ma_su_ne _ _ (by omega), ma_su_ne _ _ (by omega), ma_su_eq]
  · rw [ma_su_ne _ _ (by omega), ma_su_eq]
theorem ma_bw_ws (w : ma_ws s) (c : s 51 < 60) {h p a t : Int} (hh : 0 ≤ h ∧ h ≤ 8) (hp : 0 ≤ p ∧ p ≤ 7) (ha : 0 ≤ a ∧ a ≤ 1) (ht : 0 ≤ t ∧ t ≤ 9) : ma_ws (ma_bw s h p a t) := by
  obtain ⟨h1, h2, h3, h4, h5, h6⟩ := w
  obtain ⟨n, hn⟩ : ∃ n : Nat, s 51 = n := ⟨(s 51).toNat, by omega⟩
  refine ⟨fun q hq => ?_, ?_, ?_, ?_, fun i hi => ?_, fun i hi => ?_⟩
  · rw [ma_one_i]
    intro j hj
    rw [ma_bw_o (by omega)]
    exact ma_one_i.1 (h1 q hq) j hj
  · rw [ma_bw_o (by omega)]; exact h2
  · rw [ma_bw_51]; omega
  · rw [ma_bw_o (by omega)]; exact h4
  · rw [ma_bw_51] at hi
    rcases (by omega : i = (s 51).toNat ∨ i < (s 51).toNat) with c | c
    · subst c
      obtain ⟨p1, p2, p3, p4, p5⟩ := ma_bw_p (s := s) (h := h) (p := p) (a := a) (t := t)
      unfold ma_pg
      rw [p1, p2, p3, p4, p5]
      omega
    · unfold ma_pg
      rw [ma_bw_o (by omega), ma_bw_o (by omega), ma_bw_o (by omega), ma_bw_o (by omega), ma_bw_o (by omega)]
      exact h5 i (by omega)
  · rw [ma_bw_o (by omega)] at hi
    unfold ma_lr
    rw [ma_bw_o (by omega), ma_bw_o (by omega), ma_bw_o (by omega)]
    exact h6 i hi
theorem c_bw (W : ma_W s T V) (C : ma_C s T V M) (c : s 51 < 60) {h p a t : Int} : ma_C (ma_bw s h p a t) T V (gs_up (gs_up M 10 (53 + (s 51).toNat) (iI (s 48 + 1024 * h + 16384 * p + 131072 * a + 262144 * t))) 10 51 (iI (s 51 + 1))) := by
  have w := W.2.1
  obtain ⟨-, -, w3, w4, -⟩ := W.1
  refine C.st2 w (fun a b _ h _ => by rw [ma_cell_ne _ _ _ _ _ _ (fun z => h z.1), ma_cell_ne _ _ _ _ _ _ (fun z => h z.1)]) ?_
  obtain ⟨h1, h2, h3, h4, h5⟩ := C.st
  refine ⟨fun j hj => ?_, ?_, ?_, fun i hi => ?_, fun i hi => ?_⟩
  · rw [ma_cell_ne _ _ _ _ _ _ (by omega), ma_cell_ne _ _ _ _ _ _ (by omega), ma_bw_o (by omega)]; exact h1 j hj
  · rw [gs_up_eq, ma_bw_51]
  · rw [ma_cell_ne _ _ _ _ _ _ (by omega), ma_cell_ne _ _ _ _ _ _ (by omega), ma_bw_o (by omega)]; exact h3
  · rw [ma_bw_51] at hi
    rw [ma_cell_ne _ _ _ _ _ _ (by omega)]
    rcases (by omega : i = (s 51).toNat ∨ i < (s 51).toNat) with d | d
    · subst d
      obtain ⟨p1, p2, p3, p4, p5⟩ := ma_bw_p (s := s) (h := h) (p := p) (a := a) (t := t)
      rw [gs_up_eq]
      unfold ma_bk
      rw [p1, p2, p3, p4, p5]
    · rw [ma_cell_ne _ _ _ _ _ _ (by omega), h4 i (by omega)]
      unfold ma_bk
      rw [ma_bw_o (by omega), ma_bw_o (by omega), ma_bw_o (by omega), ma_bw_o (by omega), ma_bw_o (by omega)]
  · rw [ma_bw_o (by omega)] at hi
    rw [ma_cell_ne _ _ _ _ _ _ (by omega), ma_cell_ne _ _ _ _ _ _ (by omega), h5 i hi]
    unfold ma_lg
    rw [ma_bw_o (by omega), ma_bw_o (by omega), ma_bw_o (by omega)]
def ma_wb (s : Nat → Int) (h : Int) (p : Nat) (a : Int) : Nat → Int := ma_bw (ma_b1 s) h p a (s (6 * p + 2))
theorem ma_b1_b (w : ma_ws s) : 0 ≤ ma_b1 s 51 ∧ ma_b1 s 51 < 60 := by
  have := w.2.2.1
  rw [ma_b1_c]
  split <;> omega
theorem ma_wb_ws (w : ma_ws s) {h a : Int} {p : Nat} (hh : 0 ≤ h ∧ h ≤ 8) (hp : p < 8) (ha : 0 ≤ a ∧ a ≤ 1) : ma_ws (ma_wb s h p a) := by
  have o := w.1 p hp
  unfold ma_one at o
  exact ma_bw_ws (ma_b1_ws w) (ma_b1_b w).2 hh (by omega) ha (by omega)
theorem q_pack {a b c d e : Int} (ha : 0 ≤ a ∧ a ≤ 999) (hb : 0 ≤ b ∧ b ≤ 8) (hc : 0 ≤ c ∧ c ≤ 7) (hd : 0 ≤ d ∧ d ≤ 1) (he : 0 ≤ e ∧ e ≤ 9) : (((iI a ||| (iI b <<< (iI 10 &&& iI 31))) ||| (iI c <<< (iI 14 &&& iI 31))) ||| (iI d <<< (iI 17 &&& iI 31))) ||| (iI e <<< (iI 18 &&& iI 31)) = iI (a + 1024 * b + 16384 * c + 131072 * d + 262144 * e) := by
  obtain ⟨a, rfl⟩ : ∃ n : Nat, a = n := ⟨a.toNat, by omega⟩
  obtain ⟨b, rfl⟩ : ∃ n : Nat, b = n := ⟨b.toNat, by omega⟩
  obtain ⟨c, rfl⟩ : ∃ n : Nat, c = n := ⟨c.toNat, by omega⟩
  obtain ⟨d, rfl⟩ : ∃ n : Nat, d = n := ⟨d.toNat, by omega⟩
  obtain ⟨e, rfl⟩ : ∃ n : Nat, e = n := ⟨e.toNat, by omega⟩
  have e1 := q_orsh (x := a) (y := b) (k := 10) (by omega) (by decide) (by omega)
  have e2 := q_orsh (x := a + 2 ^ 10 * b) (y := c) (k := 14) (by omega) (by decide) (by omega)
  have e3 := q_orsh (x := a + 2 ^ 10 * b + 2 ^ 14 * c) (y := d) (k := 17) (by omega) (by decide) (by omega)
  have e4 := q_orsh (x := a + 2 ^ 10 * b + 2 ^ 14 * c + 2 ^ 17 * d) (y := e) (k := 18) (by omega) (by decide) (by omega)
  have i10 : iI 10 = iI (10 : Nat) := rfl
  have i14 : iI 14 = iI (14 : Nat) := rfl
  have i17 : iI 17 = iI (17 : Nat) := rfl
  have i18 : iI 18 = iI (18 : Nat) := rfl
  rw [i10, i14, i17, i18, e1, e2, e3, e4]
  congr 1 <;> omega
theorem c_wb (W : ma_W s T V) (C : ma_C s T V M) {h a : Int} {p : Nat} (hh : 0 ≤ h ∧ h ≤ 8) (hp : p < 8) (ha : a = 0 ∨ a = 1) : ∃ M1, f_X6_writeBook M (iI h) (iI p) (iI a) = some M1 ∧ ma_C (ma_wb s h p a) T V M1 ∧ ∀ r, r ≠ 10 → M1 r = M r := by
  have o := W.1.1 p hp
  unfold ma_one at o
  have w2 := W.1.2.1
  have hb := ma_b1_b W.1
  obtain ⟨M3, e1, C3, g3⟩ := c_b1 W C
  have W3 : ma_W (ma_b1 s) T V := ⟨ma_b1_ws W.1, W.2⟩
  obtain ⟨n, hn⟩ : ∃ n : Nat, ma_b1 s 51 = n := ⟨(ma_b1 s 51).toNat, by omega⟩
  have C4 := c_bw W3 C3 hb.2 (h := h) (p := p) (a := a) (t := s (6 * p + 2))
  rw [ma_b1_o s (j := 48) (by omega), hn, Int.toNat_natCast] at C4
  have r1 : gs_rd M3 10 173 (iI 51) = some (iI n) := by
    rw [q_rdn (z := 51) 51 rfl (by decide) (by decide), C3.st.2.1, hn]
  have r2 : ∀ v, gs_wr M3 10 173 (iI (53 + n)) v = some (gs_up M3 10 (53 + n) v) := fun v => q_wrn _ (by omega) (by omega) (by decide)
  have r3 : ∀ v, gs_rd (gs_up M3 10 (53 + n) v) 10 173 (iI 51) = some (iI n) := fun v => by
    rw [q_rdn (z := 51) 51 rfl (by decide) (by decide), ma_cell_ne _ _ _ _ _ _ (by omega), C3.st.2.1, hn]
  have r4 : ∀ N : gs_M, ∀ v, gs_wr N 10 173 (iI 51) v = some (gs_up N 10 51 v) := fun N v => q_wrn (z := 51) 51 rfl (by decide) (by decide)
  have e2 : ∀ row : Int32, f_X6_append M (iI 53) (iI 51) row = some (gs_up (gs_up M3 10 (53 + n) row) 10 51 (iI (n + 1))) := fun row => by
    unfold f_X6_append
    rw [qn60, qn1, qn59]
    generalize hq : gs_rd M 10 173 (iI 51) = q at e1 ⊢
    cases q with
    | none => simp [gs_b1] at e1
    | some v =>
      simp only [q_s1] at e1 ⊢
      rw [e1]
      simp (disch := omega) only [qn0, qn1, qn2, qn3, qn4, qn5, qn6, qn7, qn8, qn9, qn10, qn11, qn12, qn13, qn14, qn15, qn16, qn17, qn18, qn24, qn30, qn31, qn32, qn33, qn36, qn38, qn40, qn41, qn42, qn43, qn45, qn47, qn48, qn49, qn50, qn51, qn52, qn53, qn57, qn58, qn59, qn60, qn61, qn62, qn63, qn91, qn93, qn97, qn99, qn100, qn103, qn104, qn112, qn113, qn115, qn116, qn118, qn119, qn121, qn124, qn173, qn177, qn240, qn255, qn295, qn352, qn353, qn533, qn999, qn1000, qn1023, qn6561, qn10000, qn20787, qn1000000, qn252645135, qn858993459, qn1000000000, qn1431655765, q_s1, q_s2, q_s3, q_s4, q_s5, iI_add, iI_sub, iI_mul, iI_neg, q_lt, q_le, q_eq, qz0, qz1, qz2, qz3, if_pos, if_neg, reduceIte, r1, r2, r3, r4]
  refine ⟨gs_up (gs_up M3 10 (53 + n) (iI (s 48 + 1024 * h + 16384 * p + 131072 * a + 262144 * s (6 * p + 2)))) 10 51 (iI (n + 1)), ?_, C4, fun r h => ?_⟩
  · unfold f_X6_writeBook
    have z : (if iI a = iI 0 then iI 0 else iI 1) = iI a := by rcases ha with rfl | rfl <;> rfl
    simp (disch := omega) only [qn0, qn1, qn2, qn3, qn4, qn5, qn6, qn7, qn8, qn9, qn10, qn11, qn12, qn13, qn14, qn15, qn16, qn17, qn18, qn24, qn30, qn31, qn32, qn33, qn36, qn38, qn40, qn41, qn42, qn43, qn45, qn47, qn48, qn49, qn50, qn51, qn52, qn53, qn57, qn58, qn59, qn60, qn61, qn62, qn63, qn91, qn93, qn97, qn99, qn100, qn103, qn104, qn112, qn113, qn115, qn116, qn118, qn119, qn121, qn124, qn173, qn177, qn240, qn255, qn295, qn352, qn353, qn533, qn999, qn1000, qn1023, qn6561, qn10000, qn20787, qn1000000, qn252645135, qn858993459, qn1000000000, qn1431655765, q_s1, q_s2, q_s3, q_s4, q_s5, iI_add, iI_sub, iI_mul, iI_neg, q_lt, q_le, q_eq, qz0, qz1, qz2, qz3, if_pos, if_neg, reduceIte, c_now0 C.st, c_of2 C.st hp]
    rw [show (if a = 0 then iI 0 else iI 1) = iI a by rcases ha with rfl | rfl <;> rfl]
    rw [q_pack (by omega) hh (by omega) (by omega) (by omega), e2]
    simp only [q_s1]
  · rw [ma_row_ne _ _ _ _ _ h, ma_row_ne _ _ _ _ _ h, g3 r h]
theorem m_wb (W : ma_W s T V) (D : ma_M s T V M) {h a : Int} {p : Nat} (hp : p < 8) : ∃ M1, f_X12_write M (iI h) (iI p) (iI a) = some M1 ∧ ma_M (ma_wb s h p a) T V M1 ∧ ∀ r, r ≠ 158 → M1 r = M r := by
  have w := W.2.1
  have hb := ma_b1_b W.1
  obtain ⟨M3, e1, D0, g3⟩ := m_b1 W D (iI h) (iI p) (iI a)
  obtain ⟨n, hn⟩ : ∃ n : Nat, ma_b1 s 51 = n := ⟨(ma_b1 s 51).toNat, by omega⟩
  have D1 := D0.su w (52 + 5 * n) (ma_b1 s 48)
  have D2 := D1.su w (53 + 5 * n) h
  have D3 := D2.su w (54 + 5 * n) p
  have D4 := D3.su w (55 + 5 * n) a
  have e4 := m_of2 D4.st hp
  rw [ma_su_ne _ _ (by omega), ma_su_ne _ _ (by omega), ma_su_ne _ _ (by omega), ma_su_ne _ _ (by omega), ma_b1_o s (j := 6 * p + 2) (by omega)] at e4
  have D5 := D4.su w (56 + 5 * n) (s (6 * p + 2))
  have e5 := m_bk D5.st
  rw [ma_su_ne _ _ (by omega), ma_su_ne _ _ (by omega), ma_su_ne _ _ (by omega), ma_su_ne _ _ (by omega), ma_su_ne _ _ (by omega), hn] at e5
  have D6 := D5.su w 51 (ma_b1 s 51 + 1)
  have r0 := m_bk D0.st
  rw [hn] at r0
  have r1 := m_c48 D0.st
  have x0 : ∀ N : gs_M, ∀ v, gs_wr N 158 533 (iI (52 + 5 * n)) v = some (gs_up N 158 (52 + 5 * n) v) := fun N v => q_wrn _ (by omega) (by omega) (by decide)
  have x1 : ∀ N : gs_M, ∀ v, gs_wr N 158 533 (iI (52 + 5 * n + 1)) v = some (gs_up N 158 (53 + 5 * n) v) := fun N v => q_wrn _ (by omega) (by omega) (by decide)
  have x2 : ∀ N : gs_M, ∀ v, gs_wr N 158 533 (iI (52 + 5 * n + 2)) v = some (gs_up N 158 (54 + 5 * n) v) := fun N v => q_wrn _ (by omega) (by omega) (by decide)
  have x3 : ∀ N : gs_M, ∀ v, gs_wr N 158 533 (iI (52 + 5 * n + 3)) v = some (gs_up N 158 (55 + 5 * n) v) := fun N v => q_wrn _ (by omega) (by omega) (by decide)
  have x4 : ∀ N : gs_M, ∀ v, gs_wr N 158 533 (iI (52 + 5 * n + 4)) v = some (gs_up N 158 (56 + 5 * n) v) := fun N v => q_wrn _ (by omega) (by omega) (by decide)
  have x5 : ∀ N : gs_M, ∀ v, gs_wr N 158 533 (iI 51) v = some (gs_up N 158 51 v) := fun N v => q_wrn (z := 51) 51 rfl (by decide) (by decide)
  refine ⟨gs_up (gs_up (gs_up (gs_up (gs_up (gs_up M3 158 (52 + 5 * n) (iI (ma_b1 s 48))) 158 (53 + 5 * n) (iI h)) 158 (54 + 5 * n) (iI p)) 158 (55 + 5 * n) (iI a)) 158 (56 + 5 * n) (iI (s (6 * p + 2)))) 158 51 (iI (ma_b1 s 51 + 1)), ?_, ?_, fun r hr => ?_⟩
  · unfold f_X12_write
    rw [qn51, qn60, qn1]
    generalize hq : gs_rd M 158 533 (iI 51) = q at e1 ⊢
    cases q with
    | none => simp [gs_b1] at e1
    | some v =>
      simp only [q_s1] at e1 ⊢
      rw [e1]
      rw [hn]
      simp (disch := omega) only [qn0, qn1, qn2, qn3, qn4, qn5, qn6, qn7, qn8, qn9, qn10, qn11, qn12, qn13, qn14, qn15, qn16, qn17, qn18, qn24, qn30, qn31, qn32, qn33, qn36, qn38, qn40, qn41, qn42, qn43, qn45, qn47, qn48, qn49, qn50, qn51, qn52, qn53, qn57, qn58, qn59, qn60, qn61, qn62, qn63, qn91, qn93, qn97, qn99, qn100, qn103, qn104, qn112, qn113, qn115, qn116, qn118, qn119, qn121, qn124, qn173, qn177, qn240, qn255, qn295, qn352, qn353, qn533, qn999, qn1000, qn1023, qn6561, qn10000, qn20787, qn1000000, qn252645135, qn858993459, qn1000000000, qn1431655765, q_s1, q_s2, q_s3, q_s4, q_s5, iI_add, iI_sub, iI_mul, iI_neg, q_lt, q_le, q_eq, qz0, qz1, qz2, qz3, if_pos, if_neg, reduceIte, r0, r1, x0, x1, x2, x3, e4, x4, e5, x5]
  · have : ma_wb s h p a = ma_su (ma_su (ma_su (ma_su (ma_su (ma_su (ma_b1 s) (52 + 5 * n) (ma_b1 s 48)) (53 + 5 * n) h) (54 + 5 * n) p) (55 + 5 * n) a) (56 + 5 * n) (s (6 * p + 2))) 51 (ma_b1 s 51 + 1) := by
      unfold ma_wb ma_bw
      rw [hn, Int.toNat_natCast]
    rw [this]
    exact D6
  · rw [ma_row_ne _ _ _ _ _ hr, ma_row_ne _ _ _ _ _ hr, ma_row_ne _ _ _ _ _ hr, ma_row_ne _ _ _ _ _ hr, ma_row_ne _ _ _ _ _ hr, ma_row_ne _ _ _ _ _ hr, g3 r hr]
end Book
