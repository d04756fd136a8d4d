/-! the HOURS of a PERSON leave THE BOOK; a row of the LOG; a judgement -/
section Judge
variable {s s' u u' : Nat → Int} {T T' : Nat → Nat → Int} {V V' : ma_V} {M M1 M2 N : gs_M}
def ma_pc (s : Nat → Int) (k i : Nat) : Nat → Int := fun j => if 52 + 5 * k ≤ j ∧ j < 57 + 5 * k then s (52 + 5 * i + (j - (52 + 5 * k))) else s j
theorem ma_pc_o {k i j : Nat} (h : j < 52 + 5 * k ∨ 57 + 5 * k ≤ j) : ma_pc s k i j = s j := if_neg (by omega)
theorem ma_pc_i {k i m : Nat} (h : 52 ≤ m ∧ m < 57) : ma_pc s k i (m + 5 * k) = s (m + 5 * i) := by
  unfold ma_pc
  rw [if_pos (by omega)]
  congr 1
  omega
theorem ma_pc_k {k i : Nat} : ma_bk (ma_pc s k i) k = ma_bk s i := by
  unfold ma_bk
  rw [ma_pc_i (by omega), ma_pc_i (by omega), ma_pc_i (by omega), ma_pc_i (by omega), ma_pc_i (by omega)]
theorem ma_pc_m {k i m : Nat} (h : m ≠ k) : ma_bk (ma_pc s k i) m = ma_bk s m := by
  unfold ma_bk
  rw [ma_pc_o (by omega), ma_pc_o (by omega), ma_pc_o (by omega), ma_pc_o (by omega), ma_pc_o (by omega)]
theorem ma_pc_ws (w : ma_ws s) {k i : Nat} (hk : k ≤ i) (hi : (i : Int) < s 51) : ma_ws (ma_pc s k i) := by
  obtain ⟨h1, h2, h3, h4, h5, h6⟩ := w
  refine ⟨fun q hq => ?_, ?_, ?_, ?_, fun m hm => ?_, fun m hm => ?_⟩
  · rw [ma_one_i]
    intro j hj
    rw [ma_pc_o (by omega)]
    exact ma_one_i.1 (h1 q hq) j hj
  · rw [ma_pc_o (by omega)]; exact h2
  · rw [ma_pc_o (by omega)]; exact h3
  · rw [ma_pc_o (by omega)]; exact h4
  · rw [ma_pc_o (by omega)] at hm
    unfold ma_pg
    by_cases c : m = k
    · subst c
      rw [ma_pc_i (by omega), ma_pc_i (by omega), ma_pc_i (by omega), ma_pc_i (by omega), ma_pc_i (by omega)]
      exact h5 i hi
    · rw [ma_pc_o (by omega), ma_pc_o (by omega), ma_pc_o (by omega), ma_pc_o (by omega), ma_pc_o (by omega)]
      exact h5 m hm
  · rw [ma_pc_o (by omega)] at hm
    unfold ma_lr
    rw [ma_pc_o (by omega), ma_pc_o (by omega), ma_pc_o (by omega)]
    exact h6 m hm
theorem c_pc (W : ma_W s T V) (C : ma_C s T V M) {k i : Nat} (hk : k ≤ i) (hi : (i : Int) < s 51) : ma_C (ma_pc s k i) T V (gs_up M 10 (53 + k) (iI (ma_bk s i))) := by
  have w := W.2.1
  have w3 := W.1.2.2.1
  refine C.st2 w (fun a b _ h _ => by rw [ma_cell_ne _ _ _ _ _ _ (fun z => h z.1)]) ?_
  obtain ⟨h1, h2, h3, h4, h5⟩ := C.st
  refine ⟨fun j hj => ?_, ?_, ?_, fun m hm => ?_, fun m hm => ?_⟩
  · rw [ma_cell_ne _ _ _ _ _ _ (by omega), ma_pc_o (by omega)]; exact h1 j hj
  · rw [ma_cell_ne _ _ _ _ _ _ (by omega), ma_pc_o (by omega)]; exact h2
  · rw [ma_cell_ne _ _ _ _ _ _ (by omega), ma_pc_o (by omega)]; exact h3
  · rw [ma_pc_o (by omega)] at hm
    by_cases c : m = k
    · subst c
      rw [gs_up_eq, ma_pc_k]
    · rw [ma_cell_ne _ _ _ _ _ _ (by omega), ma_pc_m c]
      exact h4 m hm
  · rw [ma_pc_o (by omega)] at hm
    rw [ma_cell_ne _ _ _ _ _ _ (by omega), h5 m hm]
    unfold ma_lg
    rw [ma_pc_o (by omega), ma_pc_o (by omega), ma_pc_o (by omega)]
def ma_lb (s : Nat → Int) (p : Int) : Nat → Nat × (Nat → Int)
  | 0 => (0, s)
  | i + 1 => if (ma_lb s p i).2 (54 + 5 * i) = p then ma_lb s p i else ((ma_lb s p i).1 + 1, ma_pc (ma_lb s p i).2 (ma_lb s p i).1 i)
theorem ma_lb_k (s : Nat → Int) (p : Int) (i : Nat) : (ma_lb s p i).1 ≤ i := by
  induction i with
  | zero => simp [ma_lb]
  | succ i ih =>
    simp only [ma_lb]
    split
    · omega
    · simp only
      omega
theorem ma_lb_o (s : Nat → Int) (p : Int) {i : Nat} (hi : i ≤ 60) {j : Nat} (hj : j < 52 ∨ 352 ≤ j) : (ma_lb s p i).2 j = s j := by
  induction i with
  | zero => rfl
  | succ i ih =>
    have h1 := ma_lb_k s p i
    have h2 := ih (by omega)
    simp only [ma_lb]
    split
    · exact h2
    · simp only
      rw [ma_pc_o (by omega), h2]
theorem ma_lb_ws (w : ma_ws s) (p : Int) {i : Nat} (hi : (i : Int) ≤ s 51) : ma_ws (ma_lb s p i).2 := by
  have w3 := w.2.2.1
  induction i with
  | zero => exact w
  | succ i ih =>
    have h1 := ma_lb_k s p i
    have h2 := ih (by omega)
    simp only [ma_lb]
    split
    · exact h2
    · simp only
      exact ma_pc_ws h2 h1 (by rw [ma_lb_o s p (by omega) (by omega)]; omega)
theorem ma_lb_cg (p : Int) (h : ∀ k, 51 ≤ k → k < 352 → u k = u' k) {i : Nat} (hi : i ≤ 60) : (ma_lb u p i).1 = (ma_lb u' p i).1 ∧ ∀ k, 51 ≤ k → k < 352 → (ma_lb u p i).2 k = (ma_lb u' p i).2 k := by
  induction i with
  | zero => exact ⟨rfl, h⟩
  | succ i ih =>
    obtain ⟨h1, h2⟩ := ih (by omega)
    have h3 := ma_lb_k u' p i
    simp only [ma_lb]
    rw [h2 (54 + 5 * i) (by omega) (by omega), h1]
    split
    · exact ⟨h1, h2⟩
    · refine ⟨rfl, fun k k1 k2 => ?_⟩
      simp only
      by_cases c : 52 + 5 * (ma_lb u' p i).1 ≤ k ∧ k < 57 + 5 * (ma_lb u' p i).1
      · unfold ma_pc
        rw [if_pos c, if_pos c]
        exact h2 _ (by omega) (by omega)
      · rw [ma_pc_o (by omega), ma_pc_o (by omega)]
        exact h2 k k1 k2
def ma_str (s : Nat → Int) (p : Int) : Nat → Int := ma_su (ma_lb s p (s 51).toNat).2 51 (ma_lb s p (s 51).toNat).1
theorem c_lo51 (W : ma_W s T V) (C : ma_C s T V M) {k : Nat} (hk : (k : Int) ≤ s 51) : ma_C (ma_su s 51 k) T V (gs_up M 10 51 (iI k)) := by
  have w := W.2.1
  have w3 := W.1.2.2.1
  refine C.st2 w (fun a b _ h _ => by rw [ma_cell_ne _ _ _ _ _ _ (fun z => h z.1)]) ?_
  obtain ⟨h1, h2, h3, h4, h5⟩ := C.st
  refine ⟨fun j hj => ?_, ?_, ?_, fun m hm => ?_, fun m hm => ?_⟩
  · rw [ma_cell_ne _ _ _ _ _ _ (by omega), ma_su_ne _ _ (by omega)]; exact h1 j hj
  · rw [gs_up_eq, ma_su_eq]
  · rw [ma_cell_ne _ _ _ _ _ _ (by omega), ma_su_ne _ _ (by omega)]; exact h3
  · rw [ma_su_eq] at hm
    rw [ma_cell_ne _ _ _ _ _ _ (by omega), h4 m (by omega)]
    unfold ma_bk
    rw [ma_su_ne _ _ (by omega), ma_su_ne _ _ (by omega), ma_su_ne _ _ (by omega), ma_su_ne _ _ (by omega), ma_su_ne _ _ (by omega)]
  · rw [ma_su_ne _ _ (by omega)] at hm
    rw [ma_cell_ne _ _ _ _ _ _ (by omega), h5 m hm]
    unfold ma_lg
    rw [ma_su_ne _ _ (by omega), ma_su_ne _ _ (by omega), ma_su_ne _ _ (by omega)]
theorem ma_lo51_ws (w : ma_ws s) {k : Nat} (hk : (k : Int) ≤ s 51) : ma_ws (ma_su s 51 k) := by
  obtain ⟨h1, h2, h3, h4, h5, h6⟩ := w
  refine ⟨fun q hq => ?_, ?_, ?_, ?_, fun m hm => ?_, fun m hm => ?_⟩
  · rw [ma_one_i]
    intro j hj
    rw [ma_su_ne _ _ (by omega)]
    exact ma_one_i.1 (h1 q hq) j hj
  · rw [ma_su_ne _ _ (by omega)]; exact h2
  · rw [ma_su_eq]; omega
  · rw [ma_su_ne _ _ (by omega)]; exact h4
  · rw [ma_su_eq] at hm
    unfold ma_pg
    rw [ma_su_ne _ _ (by omega), ma_su_ne _ _ (by omega), ma_su_ne _ _ (by omega), ma_su_ne _ _ (by omega), ma_su_ne _ _ (by omega)]
    exact h5 m (by omega)
  · rw [ma_su_ne _ _ (by omega)] at hm
    unfold ma_lr
    rw [ma_su_ne _ _ (by omega), ma_su_ne _ _ (by omega), ma_su_ne _ _ (by omega)]
    exact h6 m hm
theorem ma_str_ws (w : ma_ws s) (p : Int) : ma_ws (ma_str s p) := by
  have w3 := w.2.2.1
  have h1 := ma_lb_k s p (s 51).toNat
  exact ma_lo51_ws (ma_lb_ws w p (by omega)) (by rw [ma_lb_o s p (by omega) (by omega)]; omega)
theorem c_str (W : ma_W s T V) (C : ma_C s T V M) {p : Nat} (hp : p < 8) : ∃ M1, f_X6_strike M (iI p) = some M1 ∧ ma_C (ma_str s p) T V M1 ∧ ∀ r, r ≠ 10 → M1 r = M r := by
  have w3 := W.1.2.2.1
  obtain ⟨r, e, M1, rfl, C1, g⟩ := ma_up0 (fun f i (q : Int32 × gs_M) => l_X6_strike_4 (iI p) f q.1 i q.2) (s 51).toNat
    (fun i q => q.1 = iI ((ma_lb s p i).1 : Nat) ∧ ma_C (ma_lb s p i).2 T V q.2 ∧ ∀ r, r ≠ 10 → q.2 r = M r)
    (fun r => ∃ M1, r = (iI ((ma_lb s p (s 51).toNat).1 : Nat), iI ((s 51).toNat : Nat), M1) ∧ ma_C (ma_lb s p (s 51).toNat).2 T V M1 ∧ ∀ r, r ≠ 10 → M1 r = M r) (iI 0, M) (by omega) ⟨rfl, C, fun _ _ => rfl⟩
    (by
      rintro f i ⟨q, N⟩ hi ⟨hq, hC, hg⟩
      simp only at hq hC hg
      subst hq
      left
      have W1 : ma_W (ma_lb s p i).2 T V := ⟨ma_lb_ws W.1 p (by omega), W.2⟩
      have h1 := ma_lb_k s p i
      have h51 : (ma_lb s p i).2 51 = s 51 := ma_lb_o s p (by omega) (by omega)
      have e1 := c_books rfl hC.st
      rw [h51] at e1
      have e2 := c_bookAt hC.st W1.1 (i := i) (by omega)
      obtain ⟨-, -, u2, -⟩ := c_unp W1.1 (i := i) (by omega)
      have hb := W1.1.2.2.2.2.1 i (by omega)
      unfold ma_pg at hb
      by_cases c : (ma_lb s p i).2 (54 + 5 * i) = p
      · have z : ma_lb s p (i + 1) = ma_lb s p i := by
          simp only [ma_lb]
          rw [if_pos c]
        refine ⟨(iI ((ma_lb s p (i + 1)).1 : Nat), N), ?_, rfl, by rw [z]; exact hC, hg⟩
        rw [z]
        simp only [l_X6_strike_4]
        simp (disch := omega) only [qn0, qn1, qn2, qn3, qn4, qn5, qn6, qn7, qn8, qn9, qn10, qn11, qn12, qn13, qn14, qn15, qn16, qn17, qn18, qn24, qn30, qn31, qn32, qn33, qn36, qn38, qn40, qn41, qn42, qn43, qn45, qn47, qn48, qn49, qn50, qn51, qn52, qn53, qn57, qn58, qn59, qn60, qn61, qn62, qn63, qn91, qn93, qn97, qn99, qn100, qn103, qn104, qn112, qn113, qn115, qn116, qn118, qn119, qn121, qn124, qn173, qn177, qn240, qn255, qn295, qn352, qn353, qn533, qn999, qn1000, qn1023, qn6561, qn10000, qn20787, qn1000000, qn252645135, qn858993459, qn1000000000, qn1431655765, q_s1, q_s2, q_s3, q_s4, q_s5, iI_add, iI_sub, iI_mul, iI_neg, q_lt, q_le, q_eq, qz0, qz1, qz2, qz3, if_pos, if_neg, reduceIte, e1, e2, u2, c]
      · have z : ma_lb s p (i + 1) = ((ma_lb s p i).1 + 1, ma_pc (ma_lb s p i).2 (ma_lb s p i).1 i) := by
          simp only [ma_lb]
          rw [if_neg c]
        have e3 : ∀ v, gs_wr N 10 173 (iI (53 + ((ma_lb s p i).1 : Nat))) v = some (gs_up N 10 (53 + (ma_lb s p i).1) v) := fun v => q_wrn _ (by omega) (by omega) (by decide)
        refine ⟨(iI ((ma_lb s p (i + 1)).1 : Nat), gs_up N 10 (53 + (ma_lb s p i).1) (iI (ma_bk (ma_lb s p i).2 i))), ?_, rfl, by rw [z]; exact c_pc W1 hC h1 (by omega), fun r hr => by simp only; rw [ma_row_ne _ _ _ _ _ hr, hg r hr]⟩
        rw [z]
        simp only [l_X6_strike_4]
        simp (disch := omega) only [qn0, qn1, qn2, qn3, qn4, qn5, qn6, qn7, qn8, qn9, qn10, qn11, qn12, qn13, qn14, qn15, qn16, qn17, qn18, qn24, qn30, qn31, qn32, qn33, qn36, qn38, qn40, qn41, qn42, qn43, qn45, qn47, qn48, qn49, qn50, qn51, qn52, qn53, qn57, qn58, qn59, qn60, qn61, qn62, qn63, qn91, qn93, qn97, qn99, qn100, qn103, qn104, qn112, qn113, qn115, qn116, qn118, qn119, qn121, qn124, qn173, qn177, qn240, qn255, qn295, qn352, qn353, qn533, qn999, qn1000, qn1023, qn6561, qn10000, qn20787, qn1000000, qn252645135, qn858993459, qn1000000000, qn1431655765, q_s1, q_s2, q_s3, q_s4, q_s5, iI_add, iI_sub, iI_mul, iI_neg, q_lt, q_le, q_eq, qz0, qz1, qz2, qz3, if_pos, if_neg, reduceIte, e1, e2, u2, e3]
        rfl)
    (by
      rintro f ⟨q, N⟩ ⟨hq, hC, hg⟩
      simp only at hq hC hg
      subst hq
      have h51 : (ma_lb s p (s 51).toNat).2 51 = s 51 := ma_lb_o s p (by omega) (by omega)
      have e1 := c_books rfl hC.st
      rw [h51] at e1
      refine ⟨_, ?_, N, rfl, hC, hg⟩
      simp only [l_X6_strike_4]
      simp (disch := omega) only [qn0, qn1, qn2, qn3, qn4, qn5, qn6, qn7, qn8, qn9, qn10, qn11, qn12, qn13, qn14, qn15, qn16, qn17, qn18, qn24, qn30, qn31, qn32, qn33, qn36, qn38, qn40, qn41, qn42, qn43, qn45, qn47, qn48, qn49, qn50, qn51, qn52, qn53, qn57, qn58, qn59, qn60, qn61, qn62, qn63, qn91, qn93, qn97, qn99, qn100, qn103, qn104, qn112, qn113, qn115, qn116, qn118, qn119, qn121, qn124, qn173, qn177, qn240, qn255, qn295, qn352, qn353, qn533, qn999, qn1000, qn1023, qn6561, qn10000, qn20787, qn1000000, qn252645135, qn858993459, qn1000000000, qn1431655765, q_s1, q_s2, q_s3, q_s4, q_s5, iI_add, iI_sub, iI_mul, iI_neg, q_lt, q_le, q_eq, qz0, qz1, qz2, qz3, if_pos, if_neg, reduceIte, e1])
  have W1 : ma_W (ma_lb s p (s 51).toNat).2 T V := ⟨ma_lb_ws W.1 p (by omega), W.2⟩
  have h1 := ma_lb_k s p (s 51).toNat
  have h51 : (ma_lb s p (s 51).toNat).2 51 = s 51 := ma_lb_o s p (by omega) (by omega)
  refine ⟨gs_up M1 10 51 (iI ((ma_lb s p (s 51).toNat).1 : Nat)), ?_, c_lo51 W1 C1 (by omega), fun r hr => by rw [ma_row_ne _ _ _ _ _ hr, g r hr]⟩
  have e4 : ∀ v, gs_wr M1 10 173 (iI 51) v = some (gs_up M1 10 51 v) := fun v => q_wrn (z := 51) 51 rfl (by decide) (by decide)
  have e' : l_X6_strike_4 (iI p) gs_FU (iI 0) (iI 0) M = some (iI ((ma_lb s p (s 51).toNat).1 : Nat), iI ((s 51).toNat : Nat), M1) := e
  unfold f_X6_strike
  simp (disch := omega) only [qn0, qn1, qn2, qn3, qn4, qn5, qn6, qn7, qn8, qn9, qn10, qn11, qn12, qn13, qn14, qn15, qn16, qn17, qn18, qn24, qn30, qn31, qn32, qn33, qn36, qn38, qn40, qn41, qn42, qn43, qn45, qn47, qn48, qn49, qn50, qn51, qn52, qn53, qn57, qn58, qn59, qn60, qn61, qn62, qn63, qn91, qn93, qn97, qn99, qn100, qn103, qn104, qn112, qn113, qn115, qn116, qn118, qn119, qn121, qn124, qn173, qn177, qn240, qn255, qn295, qn352, qn353, qn533, qn999, qn1000, qn1023, qn6561, qn10000, qn20787, qn1000000, qn252645135, qn858993459, qn1000000000, qn1431655765, q_s1, q_s2, q_s3, q_s4, q_s5, iI_add, iI_sub, iI_mul, iI_neg, q_lt, q_le, q_eq, qz0, qz1, qz2, qz3, if_pos, if_neg, reduceIte, e', e4]
theorem m_str (W : ma_W s T V) (D : ma_M s T V M) {p : Nat} (hp : p < 8) : ∃ M1, f_X12_leaveBook M (iI p) = some M1 ∧ ma_M (ma_str s p) T V M1 ∧ ∀ r, r ≠ 158 → M1 r = M r := by
  have w := W.2.1
  have w3 := W.1.2.2.1
  obtain ⟨r, e, M1, rfl, D1, g⟩ := ma_up0 (fun f i (q : Int32 × gs_M) => l_X12_leaveBook_4 (iI p) f q.1 i q.2) (s 51).toNat
    (fun i q => q.1 = iI ((ma_lb s p i).1 : Nat) ∧ ma_M (ma_lb s p i).2 T V q.2 ∧ ∀ r, r ≠ 158 → q.2 r = M r)
    (fun r => ∃ M1, r = (iI ((ma_lb s p (s 51).toNat).1 : Nat), iI ((s 51).toNat : Nat), M1) ∧ ma_M (ma_lb s p (s 51).toNat).2 T V M1 ∧ ∀ r, r ≠ 158 → M1 r = M r) (iI 0, M) (by omega) ⟨rfl, D, fun _ _ => rfl⟩
    (by
      rintro f i ⟨q, N⟩ hi ⟨hq, hD, hg⟩
      simp only at hq hD hg
      subst hq
      left
      have W1 : ma_W (ma_lb s p i).2 T V := ⟨ma_lb_ws W.1 p (by omega), W.2⟩
      have h1 := ma_lb_k s p i
      have h51 : (ma_lb s p i).2 51 = s 51 := ma_lb_o s p (by omega) (by omega)
      have e1 := m_bk hD.st
      rw [h51] at e1
      have u2 := m_page2 hD.st (i := i) (by omega)
      have hb := W1.1.2.2.2.2.1 i (by omega)
      unfold ma_pg at hb
      by_cases c : (ma_lb s p i).2 (54 + 5 * i) = p
      · have z : ma_lb s p (i + 1) = ma_lb s p i := by
          simp only [ma_lb]
          rw [if_pos c]
        refine ⟨(iI ((ma_lb s p (i + 1)).1 : Nat), N), ?_, rfl, by rw [z]; exact hD, hg⟩
        rw [z]
        simp only [l_X12_leaveBook_4]
        simp (disch := omega) only [qn0, qn1, qn2, qn3, qn4, qn5, qn6, qn7, qn8, qn9, qn10, qn11, qn12, qn13, qn14, qn15, qn16, qn17, qn18, qn24, qn30, qn31, qn32, qn33, qn36, qn38, qn40, qn41, qn42, qn43, qn45, qn47, qn48, qn49, qn50, qn51, qn52, qn53, qn57, qn58, qn59, qn60, qn61, qn62, qn63, qn91, qn93, qn97, qn99, qn100, qn103, qn104, qn112, qn113, qn115, qn116, qn118, qn119, qn121, qn124, qn173, qn177, qn240, qn255, qn295, qn352, qn353, qn533, qn999, qn1000, qn1023, qn6561, qn10000, qn20787, qn1000000, qn252645135, qn858993459, qn1000000000, qn1431655765, q_s1, q_s2, q_s3, q_s4, q_s5, iI_add, iI_sub, iI_mul, iI_neg, q_lt, q_le, q_eq, qz0, qz1, qz2, qz3, if_pos, if_neg, reduceIte, e1, u2, c]
      · have z : ma_lb s p (i + 1) = ((ma_lb s p i).1 + 1, ma_pc (ma_lb s p i).2 (ma_lb s p i).1 i) := by
          simp only [ma_lb]
          rw [if_neg c]
        obtain ⟨N1, e3, hN⟩ := ma_cpl (l_X12_leaveBook_31 (iI p) (iI ((ma_lb s p i).1 : Nat)) (iI i)) 0 5 158 (52 + 5 * i) 158 (52 + 5 * (ma_lb s p i).1) N (Or.inr (by omega)) (by decide) (by decide)
          (by
            intro f' j N' _ hj hN
            have e1 : f_X12_page N' (iI i) (iI j) = some (N' 158 (52 + 5 * i + j)) := by
              unfold f_X12_page
              rw [qn52, qn5, iI_mul, iI_add, iI_add, q_rdn (52 + 5 * i + j) (by omega) (by omega) (by decide), gs_s1]
            have e2 : ∀ v, gs_wr N' 158 533 (iI (52 + 5 * ((ma_lb s p i).1 : Nat) + j)) v = some (gs_up N' 158 (52 + 5 * (ma_lb s p i).1 + j) v) := fun v => q_wrn _ (by omega) (by omega) (by decide)
            simp only [l_X12_leaveBook_31]
            simp (disch := omega) only [qn0, qn1, qn2, qn3, qn4, qn5, qn6, qn7, qn8, qn9, qn10, qn11, qn12, qn13, qn14, qn15, qn16, qn17, qn18, qn24, qn30, qn31, qn32, qn33, qn36, qn38, qn40, qn41, qn42, qn43, qn45, qn47, qn48, qn49, qn50, qn51, qn52, qn53, qn57, qn58, qn59, qn60, qn61, qn62, qn63, qn91, qn93, qn97, qn99, qn100, qn103, qn104, qn112, qn113, qn115, qn116, qn118, qn119, qn121, qn124, qn173, qn177, qn240, qn255, qn295, qn352, qn353, qn533, qn999, qn1000, qn1023, qn6561, qn10000, qn20787, qn1000000, qn252645135, qn858993459, qn1000000000, qn1431655765, q_s1, q_s2, q_s3, q_s4, q_s5, iI_add, iI_sub, iI_mul, iI_neg, q_lt, q_le, q_eq, qz0, qz1, qz2, qz3, if_pos, if_neg, reduceIte, e1, e2])
          (by
            intro f' N' hN
            simp only [l_X12_leaveBook_31]
            simp (disch := omega) only [qn0, qn1, qn2, qn3, qn4, qn5, qn6, qn7, qn8, qn9, qn10, qn11, qn12, qn13, qn14, qn15, qn16, qn17, qn18, qn24, qn30, qn31, qn32, qn33, qn36, qn38, qn40, qn41, qn42, qn43, qn45, qn47, qn48, qn49, qn50, qn51, qn52, qn53, qn57, qn58, qn59, qn60, qn61, qn62, qn63, qn91, qn93, qn97, qn99, qn100, qn103, qn104, qn112, qn113, qn115, qn116, qn118, qn119, qn121, qn124, qn173, qn177, qn240, qn255, qn295, qn352, qn353, qn533, qn999, qn1000, qn1023, qn6561, qn10000, qn20787, qn1000000, qn252645135, qn858993459, qn1000000000, qn1431655765, q_s1, q_s2, q_s3, q_s4, q_s5, iI_add, iI_sub, iI_mul, iI_neg, q_lt, q_le, q_eq, qz0, qz1, qz2, qz3, if_pos, if_neg, reduceIte])
        have e3' : l_X12_leaveBook_31 (iI p) (iI ((ma_lb s p i).1 : Nat)) (iI i) gs_FU (iI 0) N = some (iI 5, N1) := e3
        refine ⟨(iI ((ma_lb s p (i + 1)).1 : Nat), N1), ?_, rfl, ?_, fun r hr => ?_⟩
        · rw [z]
          simp only [l_X12_leaveBook_4]
          simp (disch := omega) only [qn0, qn1, qn2, qn3, qn4, qn5, qn6, qn7, qn8, qn9, qn10, qn11, qn12, qn13, qn14, qn15, qn16, qn17, qn18, qn24, qn30, qn31, qn32, qn33, qn36, qn38, qn40, qn41, qn42, qn43, qn45, qn47, qn48, qn49, qn50, qn51, qn52, qn53, qn57, qn58, qn59, qn60, qn61, qn62, qn63, qn91, qn93, qn97, qn99, qn100, qn103, qn104, qn112, qn113, qn115, qn116, qn118, qn119, qn121, qn124, qn173, qn177, qn240, qn255, qn295, qn352, qn353, qn533, qn999, qn1000, qn1023, qn6561, qn10000, qn20787, qn1000000, qn252645135, qn858993459, qn1000000000, qn1431655765, q_s1, q_s2, q_s3, q_s4, q_s5, iI_add, iI_sub, iI_mul, iI_neg, q_lt, q_le, q_eq, qz0, qz1, qz2, qz3, if_pos, if_neg, reduceIte, e1, u2, e3']
          rfl
        · rw [z]
          show ma_M (ma_pc (ma_lb s p i).2 (ma_lb s p i).1 i) T V N1
          refine hD.st2 w (fun a b _ h _ => by rw [hN, if_neg (fun z => h z.1)]) (fun k hk => ?_)
          rw [hN]
          unfold ma_pc
          by_cases d : 52 + 5 * (ma_lb s p i).1 ≤ k ∧ k < 57 + 5 * (ma_lb s p i).1
          · rw [if_pos ⟨rfl, by omega, by omega⟩, if_pos d]
            exact hD.st _ (by omega)
          · rw [if_neg (by omega), if_neg d]
            exact hD.st k hk
        · funext y
          simp only
          rw [hN, if_neg (fun z => hr z.1), hg r hr])
    (by
      rintro f ⟨q, N⟩ ⟨hq, hD, hg⟩
      simp only at hq hD hg
      subst hq
      have h51 : (ma_lb s p (s 51).toNat).2 51 = s 51 := ma_lb_o s p (by omega) (by omega)
      have e1 := m_bk hD.st
      rw [h51] at e1
      refine ⟨_, ?_, N, rfl, hD, hg⟩
      simp only [l_X12_leaveBook_4]
      simp (disch := omega) only [qn0, qn1, qn2, qn3, qn4, qn5, qn6, qn7, qn8, qn9, qn10, qn11, qn12, qn13, qn14, qn15, qn16, qn17, qn18, qn24, qn30, qn31, qn32, qn33, qn36, qn38, qn40, qn41, qn42, qn43, qn45, qn47, qn48, qn49, qn50, qn51, qn52, qn53, qn57, qn58, qn59, qn60, qn61, qn62, qn63, qn91, qn93, qn97, qn99, qn100, qn103, qn104, qn112, qn113, qn115, qn116, qn118, qn119, qn121, qn124, qn173, qn177, qn240, qn255, qn295, qn352, qn353, qn533, qn999, qn1000, qn1023, qn6561, qn10000, qn20787, qn1000000, qn252645135, qn858993459, qn1000000000, qn1431655765, q_s1, q_s2, q_s3, q_s4, q_s5, iI_add, iI_sub, iI_mul, iI_neg, q_lt, q_le, q_eq, qz0, qz1, qz2, qz3, if_pos, if_neg, reduceIte, e1])
  refine ⟨gs_up M1 158 51 (iI ((ma_lb s p (s 51).toNat).1 : Nat)), ?_, D1.su w 51 _, fun r hr => by rw [ma_row_ne _ _ _ _ _ hr, g r hr]⟩
  have e4 : ∀ v, gs_wr M1 158 533 (iI 51) v = some (gs_up M1 158 51 v) := fun v => q_wrn (z := 51) 51 rfl (by decide) (by decide)
  have e' : l_X12_leaveBook_4 (iI p) gs_FU (iI 0) (iI 0) M = some (iI ((ma_lb s p (s 51).toNat).1 : Nat), iI ((s 51).toNat : Nat), M1) := e
  unfold f_X12_leaveBook
  simp (disch := omega) only [qn0, qn1, qn2, qn3, qn4, qn5, qn6, qn7, qn8, qn9, qn10, qn11, qn12, qn13, qn14, qn15, qn16, qn17, qn18, qn24, qn30, qn31, qn32, qn33, qn36, qn38, qn40, qn41, qn42, qn43, qn45, qn47, qn48, qn49, qn50, qn51, qn52, qn53, qn57, qn58, qn59, qn60, qn61, qn62, qn63, qn91, qn93, qn97, qn99, qn100, qn103, qn104, qn112, qn113, qn115, qn116, qn118, qn119, qn121, qn124, qn173, qn177, qn240, qn255, qn295, qn352, qn353, qn533, qn999, qn1000, qn1023, qn6561, qn10000, qn20787, qn1000000, qn252645135, qn858993459, qn1000000000, qn1431655765, q_s1, q_s2, q_s3, q_s4, q_s5, iI_add, iI_sub, iI_mul, iI_neg, q_lt, q_le, q_eq, qz0, qz1, qz2, qz3, if_pos, if_neg, reduceIte, e', e4]
/-- a row of the LOG behind the others -/
def ma_lw (s : Nat → Int) (p g v : Int) : Nat → Int := ma_su (ma_su (ma_su (ma_su s (353 + 3 * (s 352).toNat) p) (354 + 3 * (s 352).toNat) g) (355 + 3 * (s 352).toNat) v) 352 (s 352 + 1)
theorem ma_lw_o {p g v : Int} {j : Nat} (hj : j ≠ 352 ∧ (j < 353 + 3 * (s 352).toNat ∨ 356 + 3 * (s 352).toNat ≤ j)) : ma_lw s p g v j = s j := by
  unfold ma_lw
  rw [ma_su_ne _ _ (by omega), ma_su_ne _ _ (by omega), ma_su_ne _ _ (by omega), ma_su_ne _ _ (by omega)]
theorem ma_lw_c {p g v : Int} : ma_lw s p g v 352 = s 352 + 1 := ma_su_eq _ _ _
theorem ma_lw_p {p g v : Int} : ma_lw s p g v (353 + 3 * (s 352).toNat) = p ∧ ma_lw s p g v (354 + 3 * (s 352).toNat) = g ∧ ma_lw s p g v (355 + 3 * (s 352).toNat) = v := by
  unfold ma_lw
  refine ⟨?_, ?_, ?_⟩
  · rw [ma_su_ne _ _ (by omega), ma_su_ne _ _ (by omega), ma_su_ne _ _ (by omega), ma_su_eq]
  · rw [ma_su_ne _ _ (by omega), ma_su_ne _ _ (by omega), ma_su_eq]
  · rw [ma_su_ne _ _ (by omega), ma_su_eq]
theorem ma_lw_ws (w : ma_ws s) (c : s 352 < 60) {p g v : Int} (hp : 0 ≤ p ∧ p ≤ 7) (hg : 0 ≤ g ∧ g ≤ 1) (hv : -540 ≤ v ∧ v ≤ 540) : ma_ws (ma_lw s p g v) := by
  obtain ⟨h1, h2, h3, h4, h5, h6⟩ := w
  refine ⟨fun q hq => ?_, ?_, ?_, ?_, fun i hi => ?_, fun i hi => ?_⟩
  · rw [ma_one_i]
    intro j hj
    rw [ma_lw_o (by omega)]
    exact ma_one_i.1 (h1 q hq) j hj
  · rw [ma_lw_o (by omega)]; exact h2
  · rw [ma_lw_o (by omega)]; exact h3
  · rw [ma_lw_c]; omega
  · rw [ma_lw_o (by omega)] at hi
    unfold ma_pg
    rw [ma_lw_o (by omega), ma_lw_o (by omega), ma_lw_o (by omega), ma_lw_o (by omega), ma_lw_o (by omega)]
    exact h5 i hi
  · rw [ma_lw_c] at hi
    rcases (by omega : i = (s 352).toNat ∨ i < (s 352).toNat) with c | c
    · subst c
      obtain ⟨p1, p2, p3⟩ := ma_lw_p (s := s) (p := p) (g := g) (v := v)
      unfold ma_lr
      rw [p1, p2, p3]
      omega
    · unfold ma_lr
      rw [ma_lw_o (by omega), ma_lw_o (by omega), ma_lw_o (by omega)]
      exact h6 i (by omega)
theorem c_lw (W : ma_W s T V) (C : ma_C s T V M) (c : s 352 < 60) {p g v : Int} : ma_C (ma_lw s p g v) T V (gs_up (gs_up M 10 (113 + (s 352).toNat) (iI (p + 8 * g + 16 * (v + 1000)))) 10 52 (iI (s 352 + 1))) := by
  have w := W.2.1
  obtain ⟨-, -, w3, w4, -⟩ := W.1
  refine C.st2 w (fun a b _ h _ => by rw [ma_cell_ne _ _ _ _ _ _ (fun z => h z.1), ma_cell_ne _ _ _ _ _ _ (fun z => h z.1)]) ?_
  obtain ⟨h1, h2, h3, h4, h5⟩ := C.st
  refine ⟨fun j hj => ?_, ?_, ?_, fun i hi => ?_, fun i hi => ?_⟩
  · rw [ma_cell_ne _ _ _ _ _ _ (by omega), ma_cell_ne _ _ _ _ _ _ (by omega), ma_lw_o (by omega)]; exact h1 j hj
  · rw [ma_cell_ne _ _ _ _ _ _ (by omega), ma_cell_ne _ _ _ _ _ _ (by omega), ma_lw_o (by omega)]; exact h2
  · rw [gs_up_eq, ma_lw_c]
  · rw [ma_lw_o (by omega)] at hi
    rw [ma_cell_ne _ _ _ _ _ _ (by omega), ma_cell_ne _ _ _ _ _ _ (by omega), h4 i hi]
    unfold ma_bk
    rw [ma_lw_o (by omega), ma_lw_o (by omega), ma_lw_o (by omega), ma_lw_o (by omega), ma_lw_o (by omega)]
  · rw [ma_lw_c] at hi
    rw [ma_cell_ne _ _ _ _ _ _ (by omega)]
    rcases (by omega : i = (s 352).toNat ∨ i < (s 352).toNat) with d | d
    · subst d
      obtain ⟨p1, p2, p3⟩ := ma_lw_p (s := s) (p := p) (g := g) (v := v)
      rw [gs_up_eq]
      unfold ma_lg
      rw [p1, p2, p3]
    · rw [ma_cell_ne _ _ _ _ _ _ (by omega), h5 i (by omega)]
      unfold ma_lg
      rw [ma_lw_o (by omega), ma_lw_o (by omega), ma_lw_o (by omega)]
def ma_wl (s : Nat → Int) (p g v : Int) : Nat → Int := ma_lw (ma_l1 s) p g v
theorem ma_l1_b (w : ma_ws s) : 0 ≤ ma_l1 s 352 ∧ ma_l1 s 352 < 60 := by
  have := w.2.2.2.1
  rw [ma_l1_c]
  split <;> omega
theorem ma_wl_ws (w : ma_ws s) {p g v : Int} (hp : 0 ≤ p ∧ p ≤ 7) (hg : 0 ≤ g ∧ g ≤ 1) (hv : -540 ≤ v ∧ v ≤ 540) : ma_ws (ma_wl s p g v) := ma_lw_ws (ma_l1_ws w) (ma_l1_b w).2 hp hg hv
theorem q_packl {a b c : Int} (ha : 0 ≤ a ∧ a ≤ 7) (hb : 0 ≤ b ∧ b ≤ 1) (hc : -540 ≤ c ∧ c ≤ 540) : (iI a ||| (iI b <<< (iI 3 &&& iI 31))) ||| (iI (c + 1000) <<< (iI 4 &&& iI 31)) = iI (a + 8 * b + 16 * (c + 1000)) := by
  obtain ⟨d, hd⟩ : ∃ n : Nat, c + 1000 = n := ⟨(c + 1000).toNat, by omega⟩
  obtain ⟨a, rfl⟩ : ∃ n : Nat, a = n := ⟨a.toNat, by omega⟩
  obtain ⟨b, rfl⟩ : ∃ n : Nat, b = n := ⟨b.toNat, by omega⟩
  have e1 := q_orsh (x := a) (y := b) (k := 3) (by omega) (by decide) (by omega)
  have e2 := q_orsh (x := a + 2 ^ 3 * b) (y := d) (k := 4) (by omega) (by decide) (by omega)
  have i3 : iI 3 = iI (3 : Nat) := rfl
  have i4 : iI 4 = iI (4 : Nat) := rfl
  rw [hd, i3, i4, e1, e2]
  congr 1 <;> omega
theorem c_wl (W : ma_W s T V) (C : ma_C s T V M) {g v : Int} {p : Nat} (hp : p < 8) (hg : g = 0 ∨ g = 1) (hv : -540 ≤ v ∧ v ≤ 540) : ∃ M1, f_X6_writeLog M (iI p) (iI g) (iI v) = some M1 ∧ ma_C (ma_wl s p g v) T V M1 ∧ ∀ r, r ≠ 10 → M1 r = M r := by
  have hb := ma_l1_b W.1
  obtain ⟨M3, e1, C3, g3⟩ := c_l1 W C
  have W3 : ma_W (ma_l1 s) T V := ⟨ma_l1_ws W.1, W.2⟩
  obtain ⟨n, hn⟩ : ∃ n : Nat, ma_l1 s 352 = n := ⟨(ma_l1 s 352).toNat, by omega⟩
  have C4 := c_lw W3 C3 hb.2 (p := p) (g := g) (v := v)
  rw [hn, Int.toNat_natCast] at C4
  have r1 : gs_rd M3 10 173 (iI 52) = some (iI n) := by
    rw [q_rdn (z := 52) 52 rfl (by decide) (by decide), C3.st.2.2.1, hn]
  have r2 : ∀ v, gs_wr M3 10 173 (iI (113 + n)) v = some (gs_up M3 10 (113 + n) v) := fun v => q_wrn _ (by omega) (by omega) (by decide)
  have r3 : ∀ v, gs_rd (gs_up M3 10 (113 + n) v) 10 173 (iI 52) = some (iI n) := fun v => by
    rw [q_rdn (z := 52) 52 rfl (by decide) (by decide), ma_cell_ne _ _ _ _ _ _ (by omega), C3.st.2.2.1, hn]
  have r4 : ∀ N : gs_M, ∀ v, gs_wr N 10 173 (iI 52) v = some (gs_up N 10 52 v) := fun N v => q_wrn (z := 52) 52 rfl (by decide) (by decide)
  have e2 : ∀ row : Int32, f_X6_append M (iI 113) (iI 52) row = some (gs_up (gs_up M3 10 (113 + n) row) 10 52 (iI (n + 1))) := fun row => by
    unfold f_X6_append
    rw [qn60, qn1, qn59]
    generalize hq : gs_rd M 10 173 (iI 52) = q at e1 ⊢
    cases q with
    | none => simp [gs_b1] at e1
    | some v =>
      simp only [q_s1] at e1 ⊢
      rw [e1]
      simp (disch := omega) only [qn0, qn1, qn2, qn3, qn4, qn5, qn6, qn7, qn8, qn9, qn10, qn11, qn12, qn13, qn14, qn15, qn16, qn17, qn18, qn24, qn30, qn31, qn32, qn33, qn36, qn38, qn40, qn41, qn42, qn43, qn45, qn47, qn48, qn49, qn50, qn51, qn52, qn53, qn57, qn58, qn59, qn60, qn61, qn62, qn63, qn91, qn93, qn97, qn99, qn100, qn103, qn104, qn112, qn113, qn115, qn116, qn118, qn119, qn121, qn124, qn173, qn177, qn240, qn255, qn295, qn352, qn353, qn533, qn999, qn1000, qn1023, qn6561, qn10000, qn20787, qn1000000, qn252645135, qn858993459, qn1000000000, qn1431655765, q_s1, q_s2, q_s3, q_s4, q_s5, iI_add, iI_sub, iI_mul, iI_neg, q_lt, q_le, q_eq, qz0, qz1, qz2, qz3, if_pos, if_neg, reduceIte, r1, r2, r3, r4]
  refine ⟨gs_up (gs_up M3 10 (113 + n) (iI (p + 8 * g + 16 * (v + 1000)))) 10 52 (iI (n + 1)), ?_, C4, fun r h => ?_⟩
  · unfold f_X6_writeLog
    simp (disch := omega) only [qn0, qn1, qn2, qn3, qn4, qn5, qn6, qn7, qn8, qn9, qn10, qn11, qn12, qn13, qn14, qn15, qn16, qn17, qn18, qn24, qn30, qn31, qn32, qn33, qn36, qn38, qn40, qn41, qn42, qn43, qn45, qn47, qn48, qn49, qn50, qn51, qn52, qn53, qn57, qn58, qn59, qn60, qn61, qn62, qn63, qn91, qn93, qn97, qn99, qn100, qn103, qn104, qn112, qn113, qn115, qn116, qn118, qn119, qn121, qn124, qn173, qn177, qn240, qn255, qn295, qn352, qn353, qn533, qn999, qn1000, qn1023, qn6561, qn10000, qn20787, qn1000000, qn252645135, qn858993459, qn1000000000, qn1431655765, q_s1, q_s2, q_s3, q_s4, q_s5, iI_add, iI_sub, iI_mul, iI_neg, q_lt, q_le, q_eq, qz0, qz1, qz2, qz3, if_pos, if_neg, reduceIte]
    rw [show (if g = 0 then iI 0 else iI 1) = iI g by rcases hg with rfl | rfl <;> rfl]
    rw [q_packl (by omega) (by omega) hv, e2]
    simp only [q_s1]
  · rw [ma_row_ne _ _ _ _ _ h, ma_row_ne _ _ _ _ _ h, g3 r h]
/-- the LOG and THE BOOK don't meet -/
theorem ma_wl_lo {p g v : Int} {k : Nat} (hk : k < 352) : ma_wl s p g v k = s k := by
  unfold ma_wl
  rw [ma_lw_o (by omega), ma_l1_o s (by omega)]
theorem ma_l1_cg (h : ∀ k, 352 ≤ k → k < 533 → u k = u' k) {k : Nat} (k1 : 352 ≤ k) (k2 : k < 533) : ma_l1 u k = ma_l1 u' k := by
  unfold ma_l1
  rw [h 352 (by decide) (by decide)]
  by_cases c : u' 352 < 60
  · rw [if_pos c, if_pos c]
    exact h k k1 k2
  · rw [if_neg c, if_neg c]
    by_cases d : k = 352
    · subst d
      rw [ma_su_eq, ma_su_eq]
    · rw [ma_su_ne _ _ d, ma_su_ne _ _ d]
      unfold ma_sx
      by_cases e : 353 ≤ k ∧ k < 353 + 177
      · rw [if_pos e, if_pos e]
        exact h _ (by omega) (by omega)
      · rw [if_neg e, if_neg e]
        exact h k k1 k2
theorem ma_wl_cg {p g v : Int} (h : ∀ k, 352 ≤ k → k < 533 → u k = u' k) {k : Nat} (k1 : 352 ≤ k) (k2 : k < 533) : ma_wl u p g v k = ma_wl u' p g v k := by
  have h1 := ma_l1_cg h k1 k2
  unfold ma_wl ma_lw
  rw [ma_l1_cg h (k := 352) (by decide) (by decide)]
  unfold ma_su
  rw [h1]
theorem ma_jl {p : Int} {p' g v : Int} (w : ma_ws s) {k : Nat} (hk : k < 533) : ma_str (ma_wl s p' g v) p k = ma_wl (ma_str s p) p' g v k := by
  have w3 := w.2.2.1
  have e51 : ma_wl s p' g v 51 = s 51 := ma_wl_lo (by decide)
  by_cases c : k < 352
  · rw [ma_wl_lo c]
    obtain ⟨h1, h2⟩ := ma_lb_cg (u := ma_wl s p' g v) (u' := s) p (fun k _ k2 => ma_wl_lo k2) (i := (s 51).toNat) (by omega)
    unfold ma_str
    rw [e51, h1]
    by_cases d : k = 51
    · subst d
      rw [ma_su_eq, ma_su_eq]
    · rw [ma_su_ne _ _ d, ma_su_ne _ _ d]
      by_cases e : k < 51
      · rw [ma_lb_o _ _ (by omega) (by omega), ma_lb_o _ _ (by omega) (by omega), ma_wl_lo c]
      · exact h2 k (by omega) c
  · have e1 : ma_str (ma_wl s p' g v) p k = ma_wl s p' g v k := by
      unfold ma_str
      rw [ma_su_ne _ _ (by omega), e51, ma_lb_o _ _ (by omega) (by omega)]
    rw [e1]
    exact ma_wl_cg (fun j j1 j2 => by
      unfold ma_str
      rw [ma_su_ne _ _ (by omega), ma_lb_o _ _ (by omega) (by omega)]) (by omega) hk
theorem ma_sC.cs {c : Nat → Int32} (w : ma_ws s) (h : ma_sC s c) (e : ∀ k, k < 533 → s' k = s k) : ma_sC s' c := by
  obtain ⟨h1, h2, h3, h4, h5⟩ := h
  have w1 := w.2.2.1
  have w2 := w.2.2.2.1
  refine ⟨fun j hj => ?_, ?_, ?_, fun i hi => ?_, fun i hi => ?_⟩
  · rw [e j (by omega)]; exact h1 j hj
  · rw [e _ (by decide)]; exact h2
  · rw [e _ (by decide)]; exact h3
  · rw [e _ (by decide)] at hi
    unfold ma_bk
    rw [e _ (by omega), e _ (by omega), e _ (by omega), e _ (by omega), e _ (by omega)]
    exact h4 i hi
  · rw [e _ (by decide)] at hi
    unfold ma_lg
    rw [e _ (by omega), e _ (by omega), e _ (by omega)]
    exact h5 i hi
/-- what a judgement makes of the state -/
def ma_jd (s : Nat → Int) (p : Nat) (g : Int) (R : Nat) : Nat → Int := ma_su (ma_su s (6 * p + 5) g) R (s R + 1)
theorem ma_wR (w : ma_ws s) {R : Nat} (hR : R = 49 ∨ R = 50) (v : Int) : ma_ws (ma_su s R v) := by
  obtain ⟨h1, h2, h3, h4, h5, h6⟩ := w
  refine ⟨fun q hq => ?_, ?_, ?_, ?_, fun i hi => ?_, fun i hi => ?_⟩
  · rw [ma_one_i]
    intro j hj
    rw [ma_su_ne _ _ (by omega)]
    exact ma_one_i.1 (h1 q hq) j hj
  · rw [ma_su_ne _ _ (by omega)]; exact h2
  · rw [ma_su_ne _ _ (by omega)]; exact h3
  · rw [ma_su_ne _ _ (by omega)]; exact h4
  · rw [ma_su_ne _ _ (by omega)] at hi
    unfold ma_pg
    rw [ma_su_ne _ _ (by omega), ma_su_ne _ _ (by omega), ma_su_ne _ _ (by omega), ma_su_ne _ _ (by omega), ma_su_ne _ _ (by omega)]
    exact h5 i hi
  · rw [ma_su_ne _ _ (by omega)] at hi
    unfold ma_lr
    rw [ma_su_ne _ _ (by omega), ma_su_ne _ _ (by omega), ma_su_ne _ _ (by omega)]
    exact h6 i hi
theorem ma_jd_ws (w : ma_ws s) {p : Nat} (hp : p < 8) {g : Int} (hg : g = 0 ∨ g = 1) {R : Nat} (hR : R = 49 ∨ R = 50) : ma_ws (ma_jd s p g R) :=
  ma_wR (w.su hp (k := 5) (by decide) (v := g) (by have : ma_rg 5 = 1 := rfl; omega)) hR _
end Judge
section Judge2
variable {s s' u u' : Nat → Int} {T T' : Nat → Nat → Int} {V V' : ma_V} {M M1 M2 N : gs_M}
theorem m_wl (W : ma_W s T V) (D : ma_M s T V M) (x y z : Int32) {p g v : Int} : ∃ M1, (gs_b1 (gs_b1 (gs_rd M 158 533 (iI 352)) fun v1 => if v1 = iI 60 then gs_b2 (l_X12_judge_135 x y z gs_FU (iI 1) M) fun _ M8 => gs_b1 (gs_rd M8 158 533 (iI 352)) fun v10 => gs_b1 (gs_wr M8 158 533 (iI 352) (v10 - iI 1)) fun M13 => some M13 else some M) fun M31 =>
  gs_b1 (gs_rd M31 158 533 (iI 352)) fun v42 =>
  gs_b1 (gs_wr M31 158 533 (iI 353 + (iI 3 * v42)) (iI p)) fun M45 =>
  gs_b1 (gs_wr M45 158 533 ((iI 353 + (iI 3 * v42)) + iI 1) (iI g)) fun M47 =>
  gs_b1 (gs_wr M47 158 533 ((iI 353 + (iI 3 * v42)) + iI 2) (iI v)) fun M49 =>
  gs_b1 (gs_rd M49 158 533 (iI 352)) fun v50 =>
  gs_b1 (gs_wr M49 158 533 (iI 352) (v50 + iI 1)) fun M53 =>
  some M53) = some M1 ∧ ma_M (ma_wl s p g v) T V M1 ∧ ∀ r, r ≠ 158 → M1 r = M r := by
  have w := W.2.1
  have hb := ma_l1_b W.1
  obtain ⟨M3, e1, D0, g3⟩ := m_l1 W D x y z
  obtain ⟨n, hn⟩ : ∃ n : Nat, ma_l1 s 352 = n := ⟨(ma_l1 s 352).toNat, by omega⟩
  have D1 := D0.su w (353 + 3 * n) p
  have D2 := D1.su w (354 + 3 * n) g
  have D3 := D2.su w (355 + 3 * n) v
  have e5 := m_c352 D3.st
  rw [ma_su_ne _ _ (by omega), ma_su_ne _ _ (by omega), ma_su_ne _ _ (by omega), hn] at e5
  have D6 := D3.su w 352 (ma_l1 s 352 + 1)
  have r0 := m_c352 D0.st
  rw [hn] at r0
  have x0 : ∀ N : gs_M, ∀ v, gs_wr N 158 533 (iI (353 + 3 * n)) v = some (gs_up N 158 (353 + 3 * n) v) := fun N v => q_wrn _ (by omega) (by omega) (by decide)
  have x1 : ∀ N : gs_M, ∀ v, gs_wr N 158 533 (iI (353 + 3 * n + 1)) v = some (gs_up N 158 (354 + 3 * n) v) := fun N v => q_wrn _ (by omega) (by omega) (by decide)
  have x2 : ∀ N : gs_M, ∀ v, gs_wr N 158 533 (iI (353 + 3 * n + 2)) v = some (gs_up N 158 (355 + 3 * n) v) := fun N v => q_wrn _ (by omega) (by omega) (by decide)
  have x5 : ∀ N : gs_M, ∀ v, gs_wr N 158 533 (iI 352) v = some (gs_up N 158 352 v) := fun N v => q_wrn (z := 352) 352 rfl (by decide) (by decide)
  refine ⟨gs_up (gs_up (gs_up (gs_up M3 158 (353 + 3 * n) (iI p)) 158 (354 + 3 * n) (iI g)) 158 (355 + 3 * n) (iI v)) 158 352 (iI (ma_l1 s 352 + 1)), ?_, ?_, fun r hr => ?_⟩
  · rw [e1, hn]
    simp (disch := omega) only [q_s1, r0, iI_mul, iI_add, x0, x1, x2, e5, x5]
  · have : ma_wl s p g v = ma_su (ma_su (ma_su (ma_su (ma_l1 s) (353 + 3 * n) p) (354 + 3 * n) g) (355 + 3 * n) v) 352 (ma_l1 s 352 + 1) := by
      unfold ma_wl ma_lw
      rw [hn, Int.toNat_natCast]
    rw [this]
    exact D6
  · rw [ma_row_ne _ _ _ _ _ hr, ma_row_ne _ _ _ _ _ hr, ma_row_ne _ _ _ _ _ hr, ma_row_ne _ _ _ _ _ hr, g3 r hr]
end Judge2
set_option maxHeartbeats 20000000 in
theorem s_judge : gl_S_judge ma_Inv := by
  intro M L hI x1
  have hI0 := hI
  obtain ⟨s, T, V, W, C, D⟩ := hI
  have w := W.2.1
  obtain ⟨f1, f2, f3, f4, f5, f6, f7, f8, f9, f10, f11, f12, f13, f14, -⟩ := W.2.1
  have D1 := ma_D0 D w (iI 0)
  rcases ma_isP W x1 with ⟨n1, n2⟩ | ⟨p, hp, p8, rfl⟩
  · refine ⟨iI (-1), M, gs_up M 147 0 (iI 0), ?_, ?_, hI0.ag (ma_g0 iv_ag.rf _)⟩
    · unfold f_X11_judge
      simp (disch := omega) only [qn0, qn1, qn2, qn3, qn4, qn5, qn6, qn7, qn8, qn9, qn10, qn11, qn12, qn13, qn14, qn15, qn16, qn17, qn18, qn24, qn30, qn31, qn32, qn33, qn36, qn38, qn40, qn41, qn42, qn43, qn45, qn47, qn48, qn49, qn50, qn51, qn52, qn53, qn57, qn58, qn59, qn60, qn61, qn62, qn63, qn91, qn93, qn97, qn99, qn100, qn103, qn104, qn112, qn113, qn115, qn116, qn118, qn119, qn121, qn124, qn173, qn177, qn240, qn255, qn295, qn352, qn353, qn533, qn999, qn1000, qn1023, qn6561, qn10000, qn20787, qn1000000, qn252645135, qn858993459, qn1000000000, qn1431655765, qj0, qj1, qj2, qj4, qj7, qj8, qj9, qj10, qj30, qj100, qj1000, qj1000000, qj1000000000, qj1442695040888963407, qj6364136223846793005, q_s1, q_s2, q_s3, q_s4, q_s5, iI_add, iI_sub, iI_mul, iI_neg, q_lt, q_le, q_eq, jI_add, jI_sub, jI_mul, jI_neg, jI_of, jI_to, j_le0, j_ge0, j_lt0, j_gt0, j_eq0, q_dvl, qz0, qz1, qz2, qz3, if_pos, if_neg, reduceIte, n1 M C]
    · unfold f_X12_judge
      simp (disch := omega) only [qn0, qn1, qn2, qn3, qn4, qn5, qn6, qn7, qn8, qn9, qn10, qn11, qn12, qn13, qn14, qn15, qn16, qn17, qn18, qn24, qn30, qn31, qn32, qn33, qn36, qn38, qn40, qn41, qn42, qn43, qn45, qn47, qn48, qn49, qn50, qn51, qn52, qn53, qn57, qn58, qn59, qn60, qn61, qn62, qn63, qn91, qn93, qn97, qn99, qn100, qn103, qn104, qn112, qn113, qn115, qn116, qn118, qn119, qn121, qn124, qn173, qn177, qn240, qn255, qn295, qn352, qn353, qn533, qn999, qn1000, qn1023, qn6561, qn10000, qn20787, qn1000000, qn252645135, qn858993459, qn1000000000, qn1431655765, qj0, qj1, qj2, qj4, qj7, qj8, qj9, qj10, qj30, qj100, qj1000, qj1000000, qj1000000000, qj1442695040888963407, qj6364136223846793005, q_s1, q_s2, q_s3, q_s4, q_s5, iI_add, iI_sub, iI_mul, iI_neg, q_lt, q_le, q_eq, jI_add, jI_sub, jI_mul, jI_neg, jI_of, jI_to, j_le0, j_ge0, j_lt0, j_gt0, j_eq0, q_dvl, qz0, qz1, qz2, qz3, if_pos, if_neg, reduceIte, n2 _ D1]
  have o := W.1.1 p p8
  unfold ma_one at o
  have c5 := c_of5 C.st p8
  have m5 := m_of5 D1.st p8
  have cn := c_nb W.1 C.st p8
  have mn := m_nb W.1 D1.st p8
  have bn := ma_nb_b W.1 p
  rcases (by omega : s (6 * p + 5) = 1 ∨ s (6 * p + 5) = 0) with d | d
  · rw [d] at c5 m5
    refine ⟨iI (-1), M, gs_up M 147 0 (iI 0), ?_, ?_, hI0.ag (ma_g0 iv_ag.rf _)⟩
    · unfold f_X11_judge
      simp (disch := omega) only [qn0, qn1, qn2, qn3, qn4, qn5, qn6, qn7, qn8, qn9, qn10, qn11, qn12, qn13, qn14, qn15, qn16, qn17, qn18, qn24, qn30, qn31, qn32, qn33, qn36, qn38, qn40, qn41, qn42, qn43, qn45, qn47, qn48, qn49, qn50, qn51, qn52, qn53, qn57, qn58, qn59, qn60, qn61, qn62, qn63, qn91, qn93, qn97, qn99, qn100, qn103, qn104, qn112, qn113, qn115, qn116, qn118, qn119, qn121, qn124, qn173, qn177, qn240, qn255, qn295, qn352, qn353, qn533, qn999, qn1000, qn1023, qn6561, qn10000, qn20787, qn1000000, qn252645135, qn858993459, qn1000000000, qn1431655765, qj0, qj1, qj2, qj4, qj7, qj8, qj9, qj10, qj30, qj100, qj1000, qj1000000, qj1000000000, qj1442695040888963407, qj6364136223846793005, q_s1, q_s2, q_s3, q_s4, q_s5, iI_add, iI_sub, iI_mul, iI_neg, q_lt, q_le, q_eq, jI_add, jI_sub, jI_mul, jI_neg, jI_of, jI_to, j_le0, j_ge0, j_lt0, j_gt0, j_eq0, q_dvl, qz0, qz1, qz2, qz3, if_pos, if_neg, reduceIte, c_isP w C hp, c5]
    · unfold f_X12_judge
      simp (disch := omega) only [qn0, qn1, qn2, qn3, qn4, qn5, qn6, qn7, qn8, qn9, qn10, qn11, qn12, qn13, qn14, qn15, qn16, qn17, qn18, qn24, qn30, qn31, qn32, qn33, qn36, qn38, qn40, qn41, qn42, qn43, qn45, qn47, qn48, qn49, qn50, qn51, qn52, qn53, qn57, qn58, qn59, qn60, qn61, qn62, qn63, qn91, qn93, qn97, qn99, qn100, qn103, qn104, qn112, qn113, qn115, qn116, qn118, qn119, qn121, qn124, qn173, qn177, qn240, qn255, qn295, qn352, qn353, qn533, qn999, qn1000, qn1023, qn6561, qn10000, qn20787, qn1000000, qn252645135, qn858993459, qn1000000000, qn1431655765, qj0, qj1, qj2, qj4, qj7, qj8, qj9, qj10, qj30, qj100, qj1000, qj1000000, qj1000000000, qj1442695040888963407, qj6364136223846793005, q_s1, q_s2, q_s3, q_s4, q_s5, iI_add, iI_sub, iI_mul, iI_neg, q_lt, q_le, q_eq, jI_add, jI_sub, jI_mul, jI_neg, jI_of, jI_to, j_le0, j_ge0, j_lt0, j_gt0, j_eq0, q_dvl, qz0, qz1, qz2, qz3, if_pos, if_neg, reduceIte, m_isP w D1 hp, m5]
  rw [d] at c5 m5
  rcases (by omega : ma_nb s p = 0 ∨ 0 < ma_nb s p) with d2 | d2
  · rw [d2] at cn mn
    refine ⟨iI (-1), M, gs_up M 147 0 (iI 0), ?_, ?_, hI0.ag (ma_g0 iv_ag.rf _)⟩
    · unfold f_X11_judge
      simp (disch := omega) only [qn0, qn1, qn2, qn3, qn4, qn5, qn6, qn7, qn8, qn9, qn10, qn11, qn12, qn13, qn14, qn15, qn16, qn17, qn18, qn24, qn30, qn31, qn32, qn33, qn36, qn38, qn40, qn41, qn42, qn43, qn45, qn47, qn48, qn49, qn50, qn51, qn52, qn53, qn57, qn58, qn59, qn60, qn61, qn62, qn63, qn91, qn93, qn97, qn99, qn100, qn103, qn104, qn112, qn113, qn115, qn116, qn118, qn119, qn121, qn124, qn173, qn177, qn240, qn255, qn295, qn352, qn353, qn533, qn999, qn1000, qn1023, qn6561, qn10000, qn20787, qn1000000, qn252645135, qn858993459, qn1000000000, qn1431655765, qj0, qj1, qj2, qj4, qj7, qj8, qj9, qj10, qj30, qj100, qj1000, qj1000000, qj1000000000, qj1442695040888963407, qj6364136223846793005, q_s1, q_s2, q_s3, q_s4, q_s5, iI_add, iI_sub, iI_mul, iI_neg, q_lt, q_le, q_eq, jI_add, jI_sub, jI_mul, jI_neg, jI_of, jI_to, j_le0, j_ge0, j_lt0, j_gt0, j_eq0, q_dvl, qz0, qz1, qz2, qz3, if_pos, if_neg, reduceIte, c_isP w C hp, c5, cn]
    · unfold f_X12_judge
      simp (disch := omega) only [qn0, qn1, qn2, qn3, qn4, qn5, qn6, qn7, qn8, qn9, qn10, qn11, qn12, qn13, qn14, qn15, qn16, qn17, qn18, qn24, qn30, qn31, qn32, qn33, qn36, qn38, qn40, qn41, qn42, qn43, qn45, qn47, qn48, qn49, qn50, qn51, qn52, qn53, qn57, qn58, qn59, qn60, qn61, qn62, qn63, qn91, qn93, qn97, qn99, qn100, qn103, qn104, qn112, qn113, qn115, qn116, qn118, qn119, qn121, qn124, qn173, qn177, qn240, qn255, qn295, qn352, qn353, qn533, qn999, qn1000, qn1023, qn6561, qn10000, qn20787, qn1000000, qn252645135, qn858993459, qn1000000000, qn1431655765, qj0, qj1, qj2, qj4, qj7, qj8, qj9, qj10, qj30, qj100, qj1000, qj1000000, qj1000000000, qj1442695040888963407, qj6364136223846793005, q_s1, q_s2, q_s3, q_s4, q_s5, iI_add, iI_sub, iI_mul, iI_neg, q_lt, q_le, q_eq, jI_add, jI_sub, jI_mul, jI_neg, jI_of, jI_to, j_le0, j_ge0, j_lt0, j_gt0, j_eq0, q_dvl, qz0, qz1, qz2, qz3, if_pos, if_neg, reduceIte, m_isP w D1 hp, m5, mn]
  have W1 := W.push
  have w1 := W1.2.1
  obtain ⟨M1, k1, C1, g1⟩ := c_keep W C
  have f7' : -1 ≤ ma_push T s 3 2 ∧ ma_push T s 3 2 < ma_push T s 3 4 := f7
  have f3' : 0 ≤ ma_push T s 1 1 ∧ ma_push T s 1 1 ≤ 30 := f3
  have hp' : (p : Int) < ma_push T s 3 0 := hp
  obtain ⟨M2, e2, g2⟩ := c_case W1 C1 hp' f7'
  have C2 := C1.ag w1 g2
  have bv := ma_cs_b W.1 (ma_push T s) V (ma_push T s 3 2) p
  have key : ∀ (g : Int) (R : Nat), (g = 0 ∨ g = 1) → (R = 49 ∨ R = 50) → ∃ M3 M4 M5 M6 M7 M8, f_X6_writeLog (gs_up (gs_up M2 10 (6 * p + 5) (iI g)) 10 R (iI (s R + 1))) (iI p) (iI g) (iI (ma_cs s (ma_push T s) V (ma_push T s 3 2) p)) = some M3 ∧ f_X6_strike M3 (iI p) = some M4 ∧ ma_M s T V (gs_up M4 147 0 (iI 0)) ∧ f_X12_remember (gs_up M4 147 0 (iI 0)) = some M5 ∧ ma_M s (ma_push T s) V M5 ∧ f_X12_caseBy M5 (iI (ma_push T s 3 2)) (iI p) = some (iI (ma_cs s (ma_push T s) V (ma_push T s 3 2) p), M6) ∧ ma_M s (ma_push T s) V M6 ∧ f_X12_leaveBook (gs_up (gs_up M6 158 (6 * p + 5) (iI g)) 158 R (iI (s R + 1))) (iI p) = some M7 ∧ ma_M (ma_str (ma_jd s p g R) p) (ma_push T s) V M7 ∧ (gs_b1 (gs_b1 (gs_rd M7 158 533 (iI 352)) fun v1 => if v1 = iI 60 then gs_b2 (l_X12_judge_135 (iI p) (iI (ma_cs s (ma_push T s) V (ma_push T s 3 2) p)) (iI g) gs_FU (iI 1) M7) fun _ M8 => gs_b1 (gs_rd M8 158 533 (iI 352)) fun v10 => gs_b1 (gs_wr M8 158 533 (iI 352) (v10 - iI 1)) fun M13 => some M13 else some M7) fun M31 =>
  gs_b1 (gs_rd M31 158 533 (iI 352)) fun v42 =>
  gs_b1 (gs_wr M31 158 533 (iI 353 + (iI 3 * v42)) (iI p)) fun M45 =>
  gs_b1 (gs_wr M45 158 533 ((iI 353 + (iI 3 * v42)) + iI 1) (iI g)) fun M47 =>
  gs_b1 (gs_wr M47 158 533 ((iI 353 + (iI 3 * v42)) + iI 2) (iI (ma_cs s (ma_push T s) V (ma_push T s 3 2) p))) fun M49 =>
  gs_b1 (gs_rd M49 158 533 (iI 352)) fun v50 =>
  gs_b1 (gs_wr M49 158 533 (iI 352) (v50 + iI 1)) fun M53 =>
  some M53) = some M8 ∧ ma_Inv M8 L := by
    intro g R hg hR
    have Wj : ma_W (ma_jd s p g R) (ma_push T s) V := ⟨ma_jd_ws W.1 p8 hg hR, W1.2⟩
    have C3 : ma_C (ma_jd s p g R) (ma_push T s) V (gs_up (gs_up M2 10 (6 * p + 5) (iI g)) 10 R (iI (s R + 1))) := (C2.su w1 (by omega) g).su w1 (by omega) (s R + 1)
    obtain ⟨M3, e3, C4, g3⟩ := c_wl Wj C3 p8 hg bv
    have Wl : ma_W (ma_wl (ma_jd s p g R) p g (ma_cs s (ma_push T s) V (ma_push T s 3 2) p)) (ma_push T s) V := ⟨ma_wl_ws Wj.1 (by omega) (by omega) bv, W1.2⟩
    obtain ⟨M4, e4, C5, g4⟩ := c_str Wl C4 p8
    have gh : iv_hi M M4 := by
      refine (g1.tr g2.hi).tr (fun a b h _ => ?_)
      rw [g4 a (by omega), g3 a (by omega), ma_cell_ne _ _ _ _ _ _ (by omega), ma_cell_ne _ _ _ _ _ _ (by omega)]
    have D2 := ma_D0 (D.hi w gh) w (iI 0)
    obtain ⟨M5, e5, D5, g5⟩ := m_rem W D2
    obtain ⟨M6, e6, g6⟩ := m_case W1 D5 hp' f7'
    have D6 := D5.ag w1 g6
    have D7 : ma_M (ma_jd s p g R) (ma_push T s) V (gs_up (gs_up M6 158 (6 * p + 5) (iI g)) 158 R (iI (s R + 1))) := (D6.su w1 _ g).su w1 R (s R + 1)
    obtain ⟨M7, e7, D8, g7⟩ := m_str Wj D7 p8
    have Ws : ma_W (ma_str (ma_jd s p g R) p) (ma_push T s) V := ⟨ma_str_ws Wj.1 p, W1.2⟩
    obtain ⟨M8, e8, D9, g8⟩ := m_wl Ws D8 (iI p) (iI (ma_cs s (ma_push T s) V (ma_push T s 3 2) p)) (iI g) (p := p) (g := g) (v := ma_cs s (ma_push T s) V (ma_push T s 3 2) p)
    refine ⟨M3, M4, M5, M6, M7, M8, e3, e4, D2, e5, D5, e6, D6, e7, D8, e8, _, ma_push T s, V, ⟨ma_wl_ws Ws.1 (by omega) (by omega) bv, W1.2⟩, ?_, D9⟩
    have Wt : ma_ws (ma_str (ma_wl (ma_jd s p g R) p g (ma_cs s (ma_push T s) V (ma_push T s 3 2) p)) p) := ma_str_ws Wl.1 p
    have C6 : ma_C (ma_wl (ma_str (ma_jd s p g R) p) p g (ma_cs s (ma_push T s) V (ma_push T s 3 2) p)) (ma_push T s) V M4 := C5.st2 w1 (fun _ _ _ _ _ => rfl) (C5.st.cs Wt (fun k hk => (ma_jl Wj.1 hk).symm))
    refine C6.lo w1 ?_
    intro a b h1 h2
    rw [g8 a (by omega), g7 a (by omega), ma_cell_ne _ _ _ _ _ _ (by omega), ma_cell_ne _ _ _ _ _ _ (by omega), g6.lo a b h1 h2, g5 a b h1 h2, ma_cell_ne _ _ _ _ _ _ (by omega)]
  have r1 := c_ruled1 C2
  have r2 := c_of0 C2.st p8
  have cl := C1.la
  have wl := fun x => c_set (M := M2) (k := 5) p8 (by decide) x
  have wl' : ∀ x, f_X6_set M2 (iI p) (iI 5) x = some (gs_up M2 10 (6 * p + 5) x) := wl
  rcases (by omega : (ma_cs s (ma_push T s) V (ma_push T s 3 2) p < ma_push T s 1 1 ∧ s (6 * p) ≤ 0) ∨ (ma_cs s (ma_push T s) V (ma_push T s 3 2) p < ma_push T s 1 1 ∧ 0 < s (6 * p)) ∨ (ma_push T s 1 1 ≤ ma_cs s (ma_push T s) V (ma_push T s 3 2) p ∧ s (6 * p) ≤ 0) ∨ (ma_push T s 1 1 ≤ ma_cs s (ma_push T s) V (ma_push T s 3 2) p ∧ 0 < s (6 * p))) with c | c | c | c
  · obtain ⟨M3, M4, M5, M6, M7, M8, e3, e4, D2, e5, D5, e6, D6, e7, D8, e8, hI8⟩ := key 0 49 (by omega) (by omega)
    have q1 : gs_rd (gs_up M2 10 (6 * p + 5) (iI 0)) 10 173 (iI 49) = some (iI (s 49)) := by
      have := c_cell (C2.su w1 (k := 6 * p + 5) (by omega) 0).st (k := 49) (by decide)
      rw [ma_su_ne _ _ (by omega)] at this
      exact this
    have q2 : ∀ N : gs_M, ∀ v, gs_wr N 10 173 (iI 49) v = some (gs_up N 10 49 v) := fun N v => q_wrn (z := 49) 49 rfl (by decide) (by decide)
    have q3 : f_X12_of (gs_up M6 158 (6 * p + 5) (iI 0)) (iI p) (iI 0) = some (iI (s (6 * p))) := by
      have := m_of0 (D6.su w1 (6 * p + 5) 0).st p8
      rw [ma_su_ne _ _ (by omega)] at this
      exact this
    have q4 : gs_rd (gs_up M6 158 (6 * p + 5) (iI 0)) 158 533 (iI 49) = some (iI (s 49)) := by
      have := m_cell (D6.su w1 (6 * p + 5) 0).st (k := 49) (by decide)
      rw [ma_su_ne _ _ (by omega)] at this
      exact this
    have q5 : ∀ N : gs_M, ∀ v, gs_wr N 158 533 (iI 49) v = some (gs_up N 158 49 v) := fun N v => q_wrn (z := 49) 49 rfl (by decide) (by decide)
    have q6 : ∀ x, gs_wr M6 158 533 (iI (6 * p + 5)) x = some (gs_up M6 158 (6 * p + 5) x) := fun x => m_set (k := 5) p8 (by decide) x
    have q7 := m_rule1 D6
    have q8 := m_c352 D8.st
    have m5' := m_of5 D2.st p8
    rw [d] at m5'
    have mn' := m_nb W.1 D2.st p8
    have la5 := D5.la
    obtain ⟨N0, a0, e8⟩ := gs_o1 e8
    obtain ⟨v0, a1, e8⟩ := gs_o1 e8
    obtain ⟨N1, a2, e8⟩ := gs_o1 e8
    obtain ⟨N2, a3, e8⟩ := gs_o1 e8
    obtain ⟨N3, a4, e8⟩ := gs_o1 e8
    obtain ⟨v1, a5, e8⟩ := gs_o1 e8
    obtain ⟨N4, a6, e8⟩ := gs_o1 e8
    have e9 : N4 = M8 := Option.some.inj e8
    subst e9
    rw [q8, q_s1] at a0
    refine ⟨iI 0, M4, N4, ?_, ?_, hI8⟩
    · unfold f_X11_judge f_X6_decide f_X4_holding
      simp (disch := omega) only [qn0, qn1, qn2, qn3, qn4, qn5, qn6, qn7, qn8, qn9, qn10, qn11, qn12, qn13, qn14, qn15, qn16, qn17, qn18, qn24, qn30, qn31, qn32, qn33, qn36, qn38, qn40, qn41, qn42, qn43, qn45, qn47, qn48, qn49, qn50, qn51, qn52, qn53, qn57, qn58, qn59, qn60, qn61, qn62, qn63, qn91, qn93, qn97, qn99, qn100, qn103, qn104, qn112, qn113, qn115, qn116, qn118, qn119, qn121, qn124, qn173, qn177, qn240, qn255, qn295, qn352, qn353, qn533, qn999, qn1000, qn1023, qn6561, qn10000, qn20787, qn1000000, qn252645135, qn858993459, qn1000000000, qn1431655765, q_s1, q_s2, q_s3, q_s4, q_s5, iI_add, iI_sub, iI_mul, iI_neg, q_lt, q_le, q_eq, qz0, qz1, qz2, qz3, if_pos, if_neg, reduceIte, c_isP w C hp, c5, cn, k1, cl, e2, r1, r2, wl', q1, q2, e3, e4]
    · unfold f_X12_judge f_X12_caseOf
      simp (disch := omega) only [qn0, qn1, qn2, qn3, qn4, qn5, qn6, qn7, qn8, qn9, qn10, qn11, qn12, qn13, qn14, qn15, qn16, qn17, qn18, qn24, qn30, qn31, qn32, qn33, qn36, qn38, qn40, qn41, qn42, qn43, qn45, qn47, qn48, qn49, qn50, qn51, qn52, qn53, qn57, qn58, qn59, qn60, qn61, qn62, qn63, qn91, qn93, qn97, qn99, qn100, qn103, qn104, qn112, qn113, qn115, qn116, qn118, qn119, qn121, qn124, qn173, qn177, qn240, qn255, qn295, qn352, qn353, qn533, qn999, qn1000, qn1023, qn6561, qn10000, qn20787, qn1000000, qn252645135, qn858993459, qn1000000000, qn1431655765, q_s1, q_s2, q_s3, q_s4, q_s5, iI_add, iI_sub, iI_mul, iI_neg, q_lt, q_le, q_eq, qz0, qz1, qz2, qz3, if_pos, if_neg, reduceIte, m_isP w D2 hp, m5', mn', e5, la5, e6, q7, q6, q3, q4, q5, e7, q8, a0, a1, a2, a3, a4, a5, a6]
  · obtain ⟨M3, M4, M5, M6, M7, M8, e3, e4, D2, e5, D5, e6, D6, e7, D8, e8, hI8⟩ := key 0 50 (by omega) (by omega)
    have q1 : gs_rd (gs_up M2 10 (6 * p + 5) (iI 0)) 10 173 (iI 50) = some (iI (s 50)) := by
      have := c_cell (C2.su w1 (k := 6 * p + 5) (by omega) 0).st (k := 50) (by decide)
      rw [ma_su_ne _ _ (by omega)] at this
      exact this
    have q2 : ∀ N : gs_M, ∀ v, gs_wr N 10 173 (iI 50) v = some (gs_up N 10 50 v) := fun N v => q_wrn (z := 50) 50 rfl (by decide) (by decide)
    have q3 : f_X12_of (gs_up M6 158 (6 * p + 5) (iI 0)) (iI p) (iI 0) = some (iI (s (6 * p))) := by
      have := m_of0 (D6.su w1 (6 * p + 5) 0).st p8
      rw [ma_su_ne _ _ (by omega)] at this
      exact this
    have q4 : gs_rd (gs_up M6 158 (6 * p + 5) (iI 0)) 158 533 (iI 50) = some (iI (s 50)) := by
      have := m_cell (D6.su w1 (6 * p + 5) 0).st (k := 50) (by decide)
      rw [ma_su_ne _ _ (by omega)] at this
      exact this
    have q5 : ∀ N : gs_M, ∀ v, gs_wr N 158 533 (iI 50) v = some (gs_up N 158 50 v) := fun N v => q_wrn (z := 50) 50 rfl (by decide) (by decide)
    have q6 : ∀ x, gs_wr M6 158 533 (iI (6 * p + 5)) x = some (gs_up M6 158 (6 * p + 5) x) := fun x => m_set (k := 5) p8 (by decide) x
    have q7 := m_rule1 D6
    have q8 := m_c352 D8.st
    have m5' := m_of5 D2.st p8
    rw [d] at m5'
    have mn' := m_nb W.1 D2.st p8
    have la5 := D5.la
    obtain ⟨N0, a0, e8⟩ := gs_o1 e8
    obtain ⟨v0, a1, e8⟩ := gs_o1 e8
    obtain ⟨N1, a2, e8⟩ := gs_o1 e8
    obtain ⟨N2, a3, e8⟩ := gs_o1 e8
    obtain ⟨N3, a4, e8⟩ := gs_o1 e8
    obtain ⟨v1, a5, e8⟩ := gs_o1 e8
    obtain ⟨N4, a6, e8⟩ := gs_o1 e8
    have e9 : N4 = M8 := Option.some.inj e8
    subst e9
    rw [q8, q_s1] at a0
    refine ⟨iI 0, M4, N4, ?_, ?_, hI8⟩
    · unfold f_X11_judge f_X6_decide f_X4_holding
      simp (disch := omega) only [qn0, qn1, qn2, qn3, qn4, qn5, qn6, qn7, qn8, qn9, qn10, qn11, qn12, qn13, qn14, qn15, qn16, qn17, qn18, qn24, qn30, qn31, qn32, qn33, qn36, qn38, qn40, qn41, qn42, qn43, qn45, qn47, qn48, qn49, qn50, qn51, qn52, qn53, qn57, qn58, qn59, qn60, qn61, qn62, qn63, qn91, qn93, qn97, qn99, qn100, qn103, qn104, qn112, qn113, qn115, qn116, qn118, qn119, qn121, qn124, qn173, qn177, qn240, qn255, qn295, qn352, qn353, qn533, qn999, qn1000, qn1023, qn6561, qn10000, qn20787, qn1000000, qn252645135, qn858993459, qn1000000000, qn1431655765, q_s1, q_s2, q_s3, q_s4, q_s5, iI_add, iI_sub, iI_mul, iI_neg, q_lt, q_le, q_eq, qz0, qz1, qz2, qz3, if_pos, if_neg, reduceIte, c_isP w C hp, c5, cn, k1, cl, e2, r1, r2, wl', q1, q2, e3, e4]
    · unfold f_X12_judge f_X12_caseOf
      simp (disch := omega) only [qn0, qn1, qn2, qn3, qn4, qn5, qn6, qn7, qn8, qn9, qn10, qn11, qn12, qn13, qn14, qn15, qn16, qn17, qn18, qn24, qn30, qn31, qn32, qn33, qn36, qn38, qn40, qn41, qn42, qn43, qn45, qn47, qn48, qn49, qn50, qn51, qn52, qn53, qn57, qn58, qn59, qn60, qn61, qn62, qn63, qn91, qn93, qn97, qn99, qn100, qn103, qn104, qn112, qn113, qn115, qn116, qn118, qn119, qn121, qn124, qn173, qn177, qn240, qn255, qn295, qn352, qn353, qn533, qn999, qn1000, qn1023, qn6561, qn10000, qn20787, qn1000000, qn252645135, qn858993459, qn1000000000, qn1431655765, q_s1, q_s2, q_s3, q_s4, q_s5, iI_add, iI_sub, iI_mul, iI_neg, q_lt, q_le, q_eq, qz0, qz1, qz2, qz3, if_pos, if_neg, reduceIte, m_isP w D2 hp, m5', mn', e5, la5, e6, q7, q6, q3, q4, q5, e7, q8, a0, a1, a2, a3, a4, a5, a6]
  · obtain ⟨M3, M4, M5, M6, M7, M8, e3, e4, D2, e5, D5, e6, D6, e7, D8, e8, hI8⟩ := key 1 50 (by omega) (by omega)
    have q1 : gs_rd (gs_up M2 10 (6 * p + 5) (iI 1)) 10 173 (iI 50) = some (iI (s 50)) := by
      have := c_cell (C2.su w1 (k := 6 * p + 5) (by omega) 1).st (k := 50) (by decide)
      rw [ma_su_ne _ _ (by omega)] at this
      exact this
    have q2 : ∀ N : gs_M, ∀ v, gs_wr N 10 173 (iI 50) v = some (gs_up N 10 50 v) := fun N v => q_wrn (z := 50) 50 rfl (by decide) (by decide)
    have q3 : f_X12_of (gs_up M6 158 (6 * p + 5) (iI 1)) (iI p) (iI 0) = some (iI (s (6 * p))) := by
      have := m_of0 (D6.su w1 (6 * p + 5) 1).st p8
      rw [ma_su_ne _ _ (by omega)] at this
      exact this
    have q4 : gs_rd (gs_up M6 158 (6 * p + 5) (iI 1)) 158 533 (iI 50) = some (iI (s 50)) := by
      have := m_cell (D6.su w1 (6 * p + 5) 1).st (k := 50) (by decide)
      rw [ma_su_ne _ _ (by omega)] at this
      exact this
    have q5 : ∀ N : gs_M, ∀ v, gs_wr N 158 533 (iI 50) v = some (gs_up N 158 50 v) := fun N v => q_wrn (z := 50) 50 rfl (by decide) (by decide)
    have q6 : ∀ x, gs_wr M6 158 533 (iI (6 * p + 5)) x = some (gs_up M6 158 (6 * p + 5) x) := fun x => m_set (k := 5) p8 (by decide) x
    have q7 := m_rule1 D6
    have q8 := m_c352 D8.st
    have m5' := m_of5 D2.st p8
    rw [d] at m5'
    have mn' := m_nb W.1 D2.st p8
    have la5 := D5.la
    obtain ⟨N0, a0, e8⟩ := gs_o1 e8
    obtain ⟨v0, a1, e8⟩ := gs_o1 e8
    obtain ⟨N1, a2, e8⟩ := gs_o1 e8
    obtain ⟨N2, a3, e8⟩ := gs_o1 e8
    obtain ⟨N3, a4, e8⟩ := gs_o1 e8
    obtain ⟨v1, a5, e8⟩ := gs_o1 e8
    obtain ⟨N4, a6, e8⟩ := gs_o1 e8
    have e9 : N4 = M8 := Option.some.inj e8
    subst e9
    rw [q8, q_s1] at a0
    refine ⟨iI 1, M4, N4, ?_, ?_, hI8⟩
    · unfold f_X11_judge f_X6_decide f_X4_holding
      simp (disch := omega) only [qn0, qn1, qn2, qn3, qn4, qn5, qn6, qn7, qn8, qn9, qn10, qn11, qn12, qn13, qn14, qn15, qn16, qn17, qn18, qn24, qn30, qn31, qn32, qn33, qn36, qn38, qn40, qn41, qn42, qn43, qn45, qn47, qn48, qn49, qn50, qn51, qn52, qn53, qn57, qn58, qn59, qn60, qn61, qn62, qn63, qn91, qn93, qn97, qn99, qn100, qn103, qn104, qn112, qn113, qn115, qn116, qn118, qn119, qn121, qn124, qn173, qn177, qn240, qn255, qn295, qn352, qn353, qn533, qn999, qn1000, qn1023, qn6561, qn10000, qn20787, qn1000000, qn252645135, qn858993459, qn1000000000, qn1431655765, q_s1, q_s2, q_s3, q_s4, q_s5, iI_add, iI_sub, iI_mul, iI_neg, q_lt, q_le, q_eq, qz0, qz1, qz2, qz3, if_pos, if_neg, reduceIte, c_isP w C hp, c5, cn, k1, cl, e2, r1, r2, wl', q1, q2, e3, e4]
    · unfold f_X12_judge f_X12_caseOf
      simp (disch := omega) only [qn0, qn1, qn2, qn3, qn4, qn5, qn6, qn7, qn8, qn9, qn10, qn11, qn12, qn13, qn14, qn15, qn16, qn17, qn18, qn24, qn30, qn31, qn32, qn33, qn36, qn38, qn40, qn41, qn42, qn43, qn45, qn47, qn48, qn49, qn50, qn51, qn52, qn53, qn57, qn58, qn59, qn60, qn61, qn62, qn63, qn91, qn93, qn97, qn99, qn100, qn103, qn104, qn112, qn113, qn115, qn116, qn118, qn119, qn121, qn124, qn173, qn177, qn240, qn255, qn295, qn352, qn353, qn533, qn999, qn1000, qn1023, qn6561, qn10000, qn20787, qn1000000, qn252645135, qn858993459, qn1000000000, qn1431655765, q_s1, q_s2, q_s3, q_s4, q_s5, iI_add, iI_sub, iI_mul, iI_neg, q_lt, q_le, q_eq, qz0, qz1, qz2, qz3, if_pos, if_neg, reduceIte, m_isP w D2 hp, m5', mn', e5, la5, e6, q7, q6, q3, q4, q5, e7, q8, a0, a1, a2, a3, a4, a5, a6]
  · obtain ⟨M3, M4, M5, M6, M7, M8, e3, e4, D2, e5, D5, e6, D6, e7, D8, e8, hI8⟩ := key 1 49 (by omega) (by omega)
    have q1 : gs_rd (gs_up M2 10 (6 * p + 5) (iI 1)) 10 173 (iI 49) = some (iI (s 49)) := by
      have := c_cell (C2.su w1 (k := 6 * p + 5) (by omega) 1).st (k := 49) (by decide)
      rw [ma_su_ne _ _ (by omega)] at this
      exact this
    have q2 : ∀ N : gs_M, ∀ v, gs_wr N 10 173 (iI 49) v = some (gs_up N 10 49 v) := fun N v => q_wrn (z := 49) 49 rfl (by decide) (by decide)
    have q3 : f_X12_of (gs_up M6 158 (6 * p + 5) (iI 1)) (iI p) (iI 0) = some (iI (s (6 * p))) := by
      have := m_of0 (D6.su w1 (6 * p + 5) 1).st p8
      rw [ma_su_ne _ _ (by omega)] at this
      exact this
    have q4 : gs_rd (gs_up M6 158 (6 * p + 5) (iI 1)) 158 533 (iI 49) = some (iI (s 49)) := by
      have := m_cell (D6.su w1 (6 * p + 5) 1).st (k := 49) (by decide)
      rw [ma_su_ne _ _ (by omega)] at this
      exact this
    have q5 : ∀ N : gs_M, ∀ v, gs_wr N 158 533 (iI 49) v = some (gs_up N 158 49 v) := fun N v => q_wrn (z := 49) 49 rfl (by decide) (by decide)
    have q6 : ∀ x, gs_wr M6 158 533 (iI (6 * p + 5)) x = some (gs_up M6 158 (6 * p + 5) x) := fun x => m_set (k := 5) p8 (by decide) x
    have q7 := m_rule1 D6
    have q8 := m_c352 D8.st
    have m5' := m_of5 D2.st p8
    rw [d] at m5'
    have mn' := m_nb W.1 D2.st p8
    have la5 := D5.la
    obtain ⟨N0, a0, e8⟩ := gs_o1 e8
    obtain ⟨v0, a1, e8⟩ := gs_o1 e8
    obtain ⟨N1, a2, e8⟩ := gs_o1 e8
    obtain ⟨N2, a3, e8⟩ := gs_o1 e8
    obtain ⟨N3, a4, e8⟩ := gs_o1 e8
    obtain ⟨v1, a5, e8⟩ := gs_o1 e8
    obtain ⟨N4, a6, e8⟩ := gs_o1 e8
    have e9 : N4 = M8 := Option.some.inj e8
    subst e9
    rw [q8, q_s1] at a0
    refine ⟨iI 1, M4, N4, ?_, ?_, hI8⟩
    · unfold f_X11_judge f_X6_decide f_X4_holding
      simp (disch := omega) only [qn0, qn1, qn2, qn3, qn4, qn5, qn6, qn7, qn8, qn9, qn10, qn11, qn12, qn13, qn14, qn15, qn16, qn17, qn18, qn24, qn30, qn31, qn32, qn33, qn36, qn38, qn40, qn41, qn42, qn43, qn45, qn47, qn48, qn49, qn50, qn51, qn52, qn53, qn57, qn58, qn59, qn60, qn61, qn62, qn63, qn91, qn93, qn97, qn99, qn100, qn103, qn104, qn112, qn113, qn115, qn116, qn118, qn119, qn121, qn124, qn173, qn177, qn240, qn255, qn295, qn352, qn353, qn533, qn999, qn1000, qn1023, qn6561, qn10000, qn20787, qn1000000, qn252645135, qn858993459, qn1000000000, qn1431655765, q_s1, q_s2, q_s3, q_s4, q_s5, iI_add, iI_sub, iI_mul, iI_neg, q_lt, q_le, q_eq, qz0, qz1, qz2, qz3, if_pos, if_neg, reduceIte, c_isP w C hp, c5, cn, k1, cl, e2, r1, r2, wl', q1, q2, e3, e4]
    · unfold f_X12_judge f_X12_caseOf
      simp (disch := omega) only [qn0, qn1, qn2, qn3, qn4, qn5, qn6, qn7, qn8, qn9, qn10, qn11, qn12, qn13, qn14, qn15, qn16, qn17, qn18, qn24, qn30, qn31, qn32, qn33, qn36, qn38, qn40, qn41, qn42, qn43, qn45, qn47, qn48, qn49, qn50, qn51, qn52, qn53, qn57, qn58, qn59, qn60, qn61, qn62, qn63, qn91, qn93, qn97, qn99, qn100, qn103, qn104, qn112, qn113, qn115, qn116, qn118, qn119, qn121, qn124, qn173, qn177, qn240, qn255, qn295, qn352, qn353, qn533, qn999, qn1000, qn1023, qn6561, qn10000, qn20787, qn1000000, qn252645135, qn858993459, qn1000000000, qn1431655765, q_s1, q_s2, q_s3, q_s4, q_s5, iI_add, iI_sub, iI_mul, iI_neg, q_lt, q_le, q_eq, qz0, qz1, qz2, qz3, if_pos, if_neg, reduceIte, m_isP w D2 hp, m5', mn', e5, la5, e6, q7, q6, q3, q4, q5, e7, q8, a0, a1, a2, a3, a4, a5, a6]
