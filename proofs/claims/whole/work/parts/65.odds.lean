/-! loops over HOURS and over people: what they answer -/
theorem ma_mul10 {x c : Int} (h : 0 ≤ x) (h2 : 0 ≤ c ∧ c ≤ 10) : 0 ≤ x * c ∧ x * c ≤ 10 * x := by
  have h3 := Int.mul_nonneg h h2.1
  have h4 := Int.mul_le_mul_of_nonneg_left h2.2 h
  omega
def ma_now (s : Nat → Int) (T : Nat → Nat → Int) (V : ma_V) (p h : Nat) : Int := ma_wk s T V p h (s (6 * p)) (s (6 * p + 1))
theorem ma_now_b (s : Nat → Int) (T : Nat → Nat → Int) (V : ma_V) (p h : Nat) : 0 ≤ ma_now s T V p h ∧ ma_now s T V p h ≤ 10 := ma_wk_b _ _ _ _ _ _ _
def ma_sl (s : Nat → Int) (T : Nat → Nat → Int) (V : ma_V) (p : Nat) : Nat → Int
  | 0 => 1000000000
  | i + 1 => (ma_sl s T V p i * (10 - ma_now s T V p i)).tdiv 10
theorem ma_sl_b (s : Nat → Int) (T : Nat → Nat → Int) (V : ma_V) (p i : Nat) : 0 ≤ ma_sl s T V p i ∧ ma_sl s T V p i ≤ 1000000000 := by
  induction i with
  | zero => simp [ma_sl]
  | succ i ih =>
    have h := ma_now_b s T V p i
    have h2 := ma_mul10 (x := ma_sl s T V p i) (c := 10 - ma_now s T V p i) ih.1 (by omega)
    simp only [ma_sl]
    rw [q_tdiv h2.1]
    omega
def ma_mt (s : Nat → Int) (T : Nat → Nat → Int) (V : ma_V) (p q : Nat) : Nat → Int
  | 0 => 1000000000
  | i + 1 => ma_mt s T V p q i - (ma_mt s T V p q i * ma_now s T V p i * ma_now s T V q i).tdiv 100
theorem ma_mt_b (s : Nat → Int) (T : Nat → Nat → Int) (V : ma_V) (p q i : Nat) : 0 ≤ ma_mt s T V p q i ∧ ma_mt s T V p q i ≤ 1000000000 := by
  induction i with
  | zero => simp [ma_mt]
  | succ i ih =>
    have h2 := ma_mul10 (x := ma_mt s T V p q i) (c := ma_now s T V p i) ih.1 (ma_now_b s T V p i)
    have h3 := ma_mul10 (x := ma_mt s T V p q i * ma_now s T V p i) (c := ma_now s T V q i) h2.1 (ma_now_b s T V q i)
    simp only [ma_mt]
    rw [q_tdiv h3.1]
    omega
/-- the first of those that have the most -/
def ma_am (f : Nat → Int) : Nat → Nat
  | 0 => 0
  | i + 1 => if f i ≤ f (ma_am f i) then ma_am f i else i
theorem ma_am_b (f : Nat → Int) (i : Nat) : ma_am f i ≤ i - 1 := by
  induction i with
  | zero => simp [ma_am]
  | succ i ih =>
    simp only [ma_am]
    split <;> omega
theorem ma_am_1 (f : Nat → Int) : ma_am f 1 = 0 := by
  simp [ma_am]
section Odds
variable {s : Nat → Int} {T : Nat → Nat → Int} {V : ma_V} {M : gs_M}
theorem c_nw (W : ma_W s T V) (C : ma_C s T V M) {p h : Nat} (hp : (p : Int) < T 3 0) (hh : (h : Int) < T 1 0) : ∃ M1, f_X4_wakesNow M (iI p) (iI h) = some (iI (ma_now s T V p h), M1) ∧ iv_ag M M1 := c_now W C hp hh
theorem m_nw (W : ma_W s T V) (C : ma_M s T V M) {p h : Nat} (hp : (p : Int) < T 3 0) (hh : (h : Int) < T 1 0) : ∃ M1, f_X12_wakesNow M (iI p) (iI h) = some (iI (ma_now s T V p h), M1) ∧ iv_ag M M1 := m_now W C hp hh
theorem c_sl_l (W : ma_W s T V) (C : ma_C s T V M) {p : Nat} (hp : (p : Int) < T 3 0) : ∃ M1, l_X11_partsAsleep_7 (iI p) gs_FU (jI (ma_sl s T V p 0)) (iI 0) M = some (jI (ma_sl s T V p (T 1 0).toNat), iI ((T 1 0).toNat : Nat), M1) ∧ iv_ag M M1 := by
  have f1 := W.2.1.2.1
  obtain ⟨r, e, hr⟩ := ma_up0 (fun f i (q9 : Int64 × gs_M) => l_X11_partsAsleep_7 (iI p) f q9.1 i q9.2) ((T 1 0).toNat)
    (fun i q9 => q9.1 = jI (ma_sl s T V p i) ∧ iv_ag M q9.2)
    (fun r => ∃ M1, r = (jI (ma_sl s T V p (T 1 0).toNat), iI ((T 1 0).toNat : Nat), M1) ∧ iv_ag M M1) (jI (ma_sl s T V p 0), M) (by omega)
    ⟨rfl, iv_ag.rf⟩
    (by
      rintro f i ⟨a0, N⟩ hi ⟨ha, hM⟩
      left
      simp only at ha hM
      subst ha
      have CN := C.ag W.2.1 hM
      obtain ⟨N1, e1, gM⟩ := c_nw W CN hp (h := i) (by omega)
      have b1 := ma_now_b s T V p i
      have b2 := ma_sl_b s T V p i
      have b3 := ma_mul10 (x := ma_sl s T V p i) (c := 10 - ma_now s T V p i) b2.1 (by omega)
      have e0 := c_hours CN
      refine ⟨(jI (ma_sl s T V p (i + 1)), N1), ?_, rfl, hM.tr gM⟩
      simp only [l_X11_partsAsleep_7]
      simp (disch := omega) only [qn0, qn1, qn2, qn3, qn4, qn5, qn6, qn7, qn8, qn9, qn10, qn11, qn12, qn13, qn14, qn15, qn16, qn17, qn18, qn24, qn30, qn31, qn32, qn33, qn36, qn38, qn40, qn41, qn42, qn43, qn45, qn47, qn48, qn49, qn50, qn51, qn52, qn53, qn57, qn58, qn59, qn60, qn61, qn62, qn63, qn91, qn93, qn97, qn99, qn100, qn103, qn104, qn112, qn113, qn115, qn116, qn118, qn119, qn121, qn124, qn173, qn177, qn240, qn255, qn295, qn352, qn353, qn533, qn999, qn1000, qn1023, qn6561, qn10000, qn20787, qn1000000, qn252645135, qn858993459, qn1000000000, qn1431655765, qj0, qj1, qj2, qj4, qj7, qj8, qj9, qj10, qj30, qj100, qj1000, qj1000000, qj1000000000, qj1442695040888963407, qj6364136223846793005, q_s1, q_s2, q_s3, q_s4, q_s5, iI_add, iI_sub, iI_mul, iI_neg, q_lt, q_le, q_eq, jI_add, jI_sub, jI_mul, jI_neg, jI_of, jI_to, j_le0, j_ge0, j_lt0, j_gt0, j_eq0, q_dvl, qz0, qz1, qz2, qz3, if_pos, if_neg, reduceIte, e0, e1, ma_sl])
    (by
      rintro f ⟨a0, N⟩ ⟨ha, hM⟩
      simp only at ha hM
      subst ha
      have CN := C.ag W.2.1 hM
      refine ⟨(jI (ma_sl s T V p (T 1 0).toNat), iI ((T 1 0).toNat : Nat), N), ?_, N, rfl, hM⟩
      simp only [l_X11_partsAsleep_7]
      simp (disch := omega) only [qn0, qn1, qn2, qn3, qn4, qn5, qn6, qn7, qn8, qn9, qn10, qn11, qn12, qn13, qn14, qn15, qn16, qn17, qn18, qn24, qn30, qn31, qn32, qn33, qn36, qn38, qn40, qn41, qn42, qn43, qn45, qn47, qn48, qn49, qn50, qn51, qn52, qn53, qn57, qn58, qn59, qn60, qn61, qn62, qn63, qn91, qn93, qn97, qn99, qn100, qn103, qn104, qn112, qn113, qn115, qn116, qn118, qn119, qn121, qn124, qn173, qn177, qn240, qn255, qn295, qn352, qn353, qn533, qn999, qn1000, qn1023, qn6561, qn10000, qn20787, qn1000000, qn252645135, qn858993459, qn1000000000, qn1431655765, q_s1, q_s2, q_s3, q_s4, q_s5, iI_add, iI_sub, iI_mul, iI_neg, q_lt, q_le, q_eq, qz0, qz1, qz2, qz3, if_pos, if_neg, reduceIte, c_hours CN])
  obtain ⟨M1, rfl, g⟩ := hr
  exact ⟨M1, e, g⟩
theorem m_sl_l (W : ma_W s T V) (D : ma_M s T V M) {p : Nat} (hp : (p : Int) < T 3 0) : ∃ M1, l_X12_sleepsOf_7 (iI p) gs_FU (jI (ma_sl s T V p 0)) (iI 0) M = some (jI (ma_sl s T V p (T 1 0).toNat), iI ((T 1 0).toNat : Nat), M1) ∧ iv_ag M M1 := by
  have f1 := W.2.1.2.1
  obtain ⟨r, e, hr⟩ := ma_up0 (fun f i (q9 : Int64 × gs_M) => l_X12_sleepsOf_7 (iI p) f q9.1 i q9.2) ((T 1 0).toNat)
    (fun i q9 => q9.1 = jI (ma_sl s T V p i) ∧ iv_ag M q9.2)
    (fun r => ∃ M1, r = (jI (ma_sl s T V p (T 1 0).toNat), iI ((T 1 0).toNat : Nat), M1) ∧ iv_ag M M1) (jI (ma_sl s T V p 0), M) (by omega)
    ⟨rfl, iv_ag.rf⟩
    (by
      rintro f i ⟨a0, N⟩ hi ⟨ha, hM⟩
      left
      simp only at ha hM
      subst ha
      have CN := D.ag W.2.1 hM
      obtain ⟨N1, e1, gM⟩ := m_nw W CN hp (h := i) (by omega)
      have b1 := ma_now_b s T V p i
      have b2 := ma_sl_b s T V p i
      have b3 := ma_mul10 (x := ma_sl s T V p i) (c := 10 - ma_now s T V p i) b2.1 (by omega)
      have e0 := m_rule0 CN
      refine ⟨(jI (ma_sl s T V p (i + 1)), N1), ?_, rfl, hM.tr gM⟩
      simp only [l_X12_sleepsOf_7]
      simp (disch := omega) only [qn0, qn1, qn2, qn3, qn4, qn5, qn6, qn7, qn8, qn9, qn10, qn11, qn12, qn13, qn14, qn15, qn16, qn17, qn18, qn24, qn30, qn31, qn32, qn33, qn36, qn38, qn40, qn41, qn42, qn43, qn45, qn47, qn48, qn49, qn50, qn51, qn52, qn53, qn57, qn58, qn59, qn60, qn61, qn62, qn63, qn91, qn93, qn97, qn99, qn100, qn103, qn104, qn112, qn113, qn115, qn116, qn118, qn119, qn121, qn124, qn173, qn177, qn240, qn255, qn295, qn352, qn353, qn533, qn999, qn1000, qn1023, qn6561, qn10000, qn20787, qn1000000, qn252645135, qn858993459, qn1000000000, qn1431655765, qj0, qj1, qj2, qj4, qj7, qj8, qj9, qj10, qj30, qj100, qj1000, qj1000000, qj1000000000, qj1442695040888963407, qj6364136223846793005, q_s1, q_s2, q_s3, q_s4, q_s5, iI_add, iI_sub, iI_mul, iI_neg, q_lt, q_le, q_eq, jI_add, jI_sub, jI_mul, jI_neg, jI_of, jI_to, j_le0, j_ge0, j_lt0, j_gt0, j_eq0, q_dvl, qz0, qz1, qz2, qz3, if_pos, if_neg, reduceIte, e0, e1, ma_sl])
    (by
      rintro f ⟨a0, N⟩ ⟨ha, hM⟩
      simp only at ha hM
      subst ha
      have CN := D.ag W.2.1 hM
      refine ⟨(jI (ma_sl s T V p (T 1 0).toNat), iI ((T 1 0).toNat : Nat), N), ?_, N, rfl, hM⟩
      simp only [l_X12_sleepsOf_7]
      simp (disch := omega) only [qn0, qn1, qn2, qn3, qn4, qn5, qn6, qn7, qn8, qn9, qn10, qn11, qn12, qn13, qn14, qn15, qn16, qn17, qn18, qn24, qn30, qn31, qn32, qn33, qn36, qn38, qn40, qn41, qn42, qn43, qn45, qn47, qn48, qn49, qn50, qn51, qn52, qn53, qn57, qn58, qn59, qn60, qn61, qn62, qn63, qn91, qn93, qn97, qn99, qn100, qn103, qn104, qn112, qn113, qn115, qn116, qn118, qn119, qn121, qn124, qn173, qn177, qn240, qn255, qn295, qn352, qn353, qn533, qn999, qn1000, qn1023, qn6561, qn10000, qn20787, qn1000000, qn252645135, qn858993459, qn1000000000, qn1431655765, q_s1, q_s2, q_s3, q_s4, q_s5, iI_add, iI_sub, iI_mul, iI_neg, q_lt, q_le, q_eq, qz0, qz1, qz2, qz3, if_pos, if_neg, reduceIte, m_rule0 CN])
  obtain ⟨M1, rfl, g⟩ := hr
  exact ⟨M1, e, g⟩
theorem c_sl (W : ma_W s T V) (C : ma_C s T V M) {p : Nat} (hp : (p : Int) < T 3 0) : ∃ M1, f_X11_partsAsleep M (iI p) = some (iI (ma_sl s T V p (T 1 0).toNat), M1) ∧ iv_ag M M1 := by
  obtain ⟨M1, e, g⟩ := c_sl_l W C hp
  refine ⟨M1, ?_, g⟩
  unfold f_X11_partsAsleep
  simp only [qn0, qn1, qn2, qn3, qn4, qn5, qn6, qn7, qn8, qn9, qn10, qn11, qn12, qn13, qn14, qn15, qn16, qn17, qn18, qn24, qn30, qn31, qn32, qn33, qn36, qn38, qn40, qn41, qn42, qn43, qn45, qn47, qn48, qn49, qn50, qn51, qn52, qn53, qn57, qn58, qn59, qn60, qn61, qn62, qn63, qn91, qn93, qn97, qn99, qn100, qn103, qn104, qn112, qn113, qn115, qn116, qn118, qn119, qn121, qn124, qn173, qn177, qn240, qn255, qn295, qn352, qn353, qn533, qn999, qn1000, qn1023, qn6561, qn10000, qn20787, qn1000000, qn252645135, qn858993459, qn1000000000, qn1431655765, qj0, qj1, qj2, qj4, qj7, qj8, qj9, qj10, qj30, qj100, qj1000, qj1000000, qj1000000000, qj1442695040888963407, qj6364136223846793005, q_s1, q_s2, q_s3, q_s4, q_s5, iI_add, iI_sub, iI_mul, iI_neg, q_lt, q_le, q_eq, jI_add, jI_sub, jI_mul, jI_neg, jI_of, jI_to, j_le0, j_ge0, j_lt0, j_gt0, j_eq0, q_dvl, qz0, qz1, qz2, qz3, if_pos, if_neg, reduceIte, show jI 1000000000 = jI (ma_sl s T V p 0) from rfl, e]
theorem m_sl (W : ma_W s T V) (D : ma_M s T V M) {p : Nat} (hp : (p : Int) < T 3 0) : ∃ M1, f_X12_sleepsOf M (iI p) = some (iI (ma_sl s T V p (T 1 0).toNat), M1) ∧ iv_ag M M1 := by
  obtain ⟨M1, e, g⟩ := m_sl_l W D hp
  refine ⟨M1, ?_, g⟩
  unfold f_X12_sleepsOf
  simp only [qn0, qn1, qn2, qn3, qn4, qn5, qn6, qn7, qn8, qn9, qn10, qn11, qn12, qn13, qn14, qn15, qn16, qn17, qn18, qn24, qn30, qn31, qn32, qn33, qn36, qn38, qn40, qn41, qn42, qn43, qn45, qn47, qn48, qn49, qn50, qn51, qn52, qn53, qn57, qn58, qn59, qn60, qn61, qn62, qn63, qn91, qn93, qn97, qn99, qn100, qn103, qn104, qn112, qn113, qn115, qn116, qn118, qn119, qn121, qn124, qn173, qn177, qn240, qn255, qn295, qn352, qn353, qn533, qn999, qn1000, qn1023, qn6561, qn10000, qn20787, qn1000000, qn252645135, qn858993459, qn1000000000, qn1431655765, qj0, qj1, qj2, qj4, qj7, qj8, qj9, qj10, qj30, qj100, qj1000, qj1000000, qj1000000000, qj1442695040888963407, qj6364136223846793005, q_s1, q_s2, q_s3, q_s4, q_s5, iI_add, iI_sub, iI_mul, iI_neg, q_lt, q_le, q_eq, jI_add, jI_sub, jI_mul, jI_neg, jI_of, jI_to, j_le0, j_ge0, j_lt0, j_gt0, j_eq0, q_dvl, qz0, qz1, qz2, qz3, if_pos, if_neg, reduceIte, show jI 1000000000 = jI (ma_sl s T V p 0) from rfl, e]
theorem c_mt_l (W : ma_W s T V) (C : ma_C s T V M) {p q : Nat} (hp : (p : Int) < T 3 0) (hq : (q : Int) < T 3 0) : ∃ M1, l_X11_meet_30 (iI p) (iI q) gs_FU (jI (ma_mt s T V p q 0)) (iI 0) M = some (jI (ma_mt s T V p q (T 1 0).toNat), iI ((T 1 0).toNat : Nat), M1) ∧ iv_ag M M1 := by
  have f1 := W.2.1.2.1
  obtain ⟨r, e, hr⟩ := ma_up0 (fun f i (q9 : Int64 × gs_M) => l_X11_meet_30 (iI p) (iI q) f q9.1 i q9.2) ((T 1 0).toNat)
    (fun i q9 => q9.1 = jI (ma_mt s T V p q i) ∧ iv_ag M q9.2)
    (fun r => ∃ M1, r = (jI (ma_mt s T V p q (T 1 0).toNat), iI ((T 1 0).toNat : Nat), M1) ∧ iv_ag M M1) (jI (ma_mt s T V p q 0), M) (by omega)
    ⟨rfl, iv_ag.rf⟩
    (by
      rintro f i ⟨a0, N⟩ hi ⟨ha, hM⟩
      left
      simp only at ha hM
      subst ha
      have CN := C.ag W.2.1 hM
      obtain ⟨N1, e1, g1⟩ := c_nw W CN hp (h := i) (by omega)
      obtain ⟨N2, e2, g2⟩ := c_nw W (CN.ag W.2.1 g1) hq (h := i) (by omega)
      have gM := g1.tr g2
      have b1 := ma_now_b s T V p i
      have b4 := ma_now_b s T V q i
      have b2 := ma_mt_b s T V p q i
      have b3 := ma_mul10 (x := ma_mt s T V p q i) (c := ma_now s T V p i) b2.1 b1
      have b5 := ma_mul10 (x := ma_mt s T V p q i * ma_now s T V p i) (c := ma_now s T V q i) b3.1 b4
      have e0 := c_hours CN
      refine ⟨(jI (ma_mt s T V p q (i + 1)), N2), ?_, rfl, hM.tr gM⟩
      simp only [l_X11_meet_30]
      simp (disch := omega) only [qn0, qn1, qn2, qn3, qn4, qn5, qn6, qn7, qn8, qn9, qn10, qn11, qn12, qn13, qn14, qn15, qn16, qn17, qn18, qn24, qn30, qn31, qn32, qn33, qn36, qn38, qn40, qn41, qn42, qn43, qn45, qn47, qn48, qn49, qn50, qn51, qn52, qn53, qn57, qn58, qn59, qn60, qn61, qn62, qn63, qn91, qn93, qn97, qn99, qn100, qn103, qn104, qn112, qn113, qn115, qn116, qn118, qn119, qn121, qn124, qn173, qn177, qn240, qn255, qn295, qn352, qn353, qn533, qn999, qn1000, qn1023, qn6561, qn10000, qn20787, qn1000000, qn252645135, qn858993459, qn1000000000, qn1431655765, qj0, qj1, qj2, qj4, qj7, qj8, qj9, qj10, qj30, qj100, qj1000, qj1000000, qj1000000000, qj1442695040888963407, qj6364136223846793005, q_s1, q_s2, q_s3, q_s4, q_s5, iI_add, iI_sub, iI_mul, iI_neg, q_lt, q_le, q_eq, jI_add, jI_sub, jI_mul, jI_neg, jI_of, jI_to, j_le0, j_ge0, j_lt0, j_gt0, j_eq0, q_dvl, qz0, qz1, qz2, qz3, if_pos, if_neg, reduceIte, e0, e1, e2, ma_mt])
    (by
      rintro f ⟨a0, N⟩ ⟨ha, hM⟩
      simp only at ha hM
      subst ha
      have CN := C.ag W.2.1 hM
      refine ⟨(jI (ma_mt s T V p q (T 1 0).toNat), iI ((T 1 0).toNat : Nat), N), ?_, N, rfl, hM⟩
      simp only [l_X11_meet_30]
      simp (disch := omega) only [qn0, qn1, qn2, qn3, qn4, qn5, qn6, qn7, qn8, qn9, qn10, qn11, qn12, qn13, qn14, qn15, qn16, qn17, qn18, qn24, qn30, qn31, qn32, qn33, qn36, qn38, qn40, qn41, qn42, qn43, qn45, qn47, qn48, qn49, qn50, qn51, qn52, qn53, qn57, qn58, qn59, qn60, qn61, qn62, qn63, qn91, qn93, qn97, qn99, qn100, qn103, qn104, qn112, qn113, qn115, qn116, qn118, qn119, qn121, qn124, qn173, qn177, qn240, qn255, qn295, qn352, qn353, qn533, qn999, qn1000, qn1023, qn6561, qn10000, qn20787, qn1000000, qn252645135, qn858993459, qn1000000000, qn1431655765, q_s1, q_s2, q_s3, q_s4, q_s5, iI_add, iI_sub, iI_mul, iI_neg, q_lt, q_le, q_eq, qz0, qz1, qz2, qz3, if_pos, if_neg, reduceIte, c_hours CN])
  obtain ⟨M1, rfl, g⟩ := hr
  exact ⟨M1, e, g⟩
theorem m_mt_l (W : ma_W s T V) (D : ma_M s T V M) {p q : Nat} (hp : (p : Int) < T 3 0) (hq : (q : Int) < T 3 0) : ∃ M1, l_X12_meet_35 (iI p) (iI q) gs_FU (jI (ma_mt s T V p q 0)) (iI 0) M = some (jI (ma_mt s T V p q (T 1 0).toNat), iI ((T 1 0).toNat : Nat), M1) ∧ iv_ag M M1 := by
  have f1 := W.2.1.2.1
  obtain ⟨r, e, hr⟩ := ma_up0 (fun f i (q9 : Int64 × gs_M) => l_X12_meet_35 (iI p) (iI q) f q9.1 i q9.2) ((T 1 0).toNat)
    (fun i q9 => q9.1 = jI (ma_mt s T V p q i) ∧ iv_ag M q9.2)
    (fun r => ∃ M1, r = (jI (ma_mt s T V p q (T 1 0).toNat), iI ((T 1 0).toNat : Nat), M1) ∧ iv_ag M M1) (jI (ma_mt s T V p q 0), M) (by omega)
    ⟨rfl, iv_ag.rf⟩
    (by
      rintro f i ⟨a0, N⟩ hi ⟨ha, hM⟩
      left
      simp only at ha hM
      subst ha
      have CN := D.ag W.2.1 hM
      obtain ⟨N1, e1, g1⟩ := m_nw W CN hp (h := i) (by omega)
      obtain ⟨N2, e2, g2⟩ := m_nw W (CN.ag W.2.1 g1) hq (h := i) (by omega)
      have gM := g1.tr g2
      have b1 := ma_now_b s T V p i
      have b4 := ma_now_b s T V q i
      have b2 := ma_mt_b s T V p q i
      have b3 := ma_mul10 (x := ma_mt s T V p q i) (c := ma_now s T V p i) b2.1 b1
      have b5 := ma_mul10 (x := ma_mt s T V p q i * ma_now s T V p i) (c := ma_now s T V q i) b3.1 b4
      have e0 := m_rule0 CN
      refine ⟨(jI (ma_mt s T V p q (i + 1)), N2), ?_, rfl, hM.tr gM⟩
      simp only [l_X12_meet_35]
      simp (disch := omega) only [qn0, qn1, qn2, qn3, qn4, qn5, qn6, qn7, qn8, qn9, qn10, qn11, qn12, qn13, qn14, qn15, qn16, qn17, qn18, qn24, qn30, qn31, qn32, qn33, qn36, qn38, qn40, qn41, qn42, qn43, qn45, qn47, qn48, qn49, qn50, qn51, qn52, qn53, qn57, qn58, qn59, qn60, qn61, qn62, qn63, qn91, qn93, qn97, qn99, qn100, qn103, qn104, qn112, qn113, qn115, qn116, qn118, qn119, qn121, qn124, qn173, qn177, qn240, qn255, qn295, qn352, qn353, qn533, qn999, qn1000, qn1023, qn6561, qn10000, qn20787, qn1000000, qn252645135, qn858993459, qn1000000000, qn1431655765, qj0, qj1, qj2, qj4, qj7, qj8, qj9, qj10, qj30, qj100, qj1000, qj1000000, qj1000000000, qj1442695040888963407, qj6364136223846793005, q_s1, q_s2, q_s3, q_s4, q_s5, iI_add, iI_sub, iI_mul, iI_neg, q_lt, q_le, q_eq, jI_add, jI_sub, jI_mul, jI_neg, jI_of, jI_to, j_le0, j_ge0, j_lt0, j_gt0, j_eq0, q_dvl, qz0, qz1, qz2, qz3, if_pos, if_neg, reduceIte, e0, e1, e2, ma_mt])
    (by
      rintro f ⟨a0, N⟩ ⟨ha, hM⟩
      simp only at ha hM
      subst ha
      have CN := D.ag W.2.1 hM
      refine ⟨(jI (ma_mt s T V p q (T 1 0).toNat), iI ((T 1 0).toNat : Nat), N), ?_, N, rfl, hM⟩
      simp only [l_X12_meet_35]
      simp (disch := omega) only [qn0, qn1, qn2, qn3, qn4, qn5, qn6, qn7, qn8, qn9, qn10, qn11, qn12, qn13, qn14, qn15, qn16, qn17, qn18, qn24, qn30, qn31, qn32, qn33, qn36, qn38, qn40, qn41, qn42, qn43, qn45, qn47, qn48, qn49, qn50, qn51, qn52, qn53, qn57, qn58, qn59, qn60, qn61, qn62, qn63, qn91, qn93, qn97, qn99, qn100, qn103, qn104, qn112, qn113, qn115, qn116, qn118, qn119, qn121, qn124, qn173, qn177, qn240, qn255, qn295, qn352, qn353, qn533, qn999, qn1000, qn1023, qn6561, qn10000, qn20787, qn1000000, qn252645135, qn858993459, qn1000000000, qn1431655765, q_s1, q_s2, q_s3, q_s4, q_s5, iI_add, iI_sub, iI_mul, iI_neg, q_lt, q_le, q_eq, qz0, qz1, qz2, qz3, if_pos, if_neg, reduceIte, m_rule0 CN])
  obtain ⟨M1, rfl, g⟩ := hr
  exact ⟨M1, e, g⟩
theorem c_cr_l (W : ma_W s T V) (C : ma_C s T V M) {h : Nat} (hh : (h : Int) < T 1 0) : ∃ M1, l_X11_cries_21 (iI h) gs_FU (iI (ma_sm 0 (fun p => ma_now s T V p h))) (iI 0) M = some (iI (ma_sm (T 3 0).toNat (fun p => ma_now s T V p h)), iI ((T 3 0).toNat : Nat), M1) ∧ iv_ag M M1 := by
  have f1 := W.2.1.1
  obtain ⟨r, e, hr⟩ := ma_up0 (fun f i (q9 : Int32 × gs_M) => l_X11_cries_21 (iI h) f q9.1 i q9.2) ((T 3 0).toNat)
    (fun i q9 => q9.1 = iI (ma_sm i (fun p => ma_now s T V p h)) ∧ iv_ag M q9.2)
    (fun r => ∃ M1, r = (iI (ma_sm (T 3 0).toNat (fun p => ma_now s T V p h)), iI ((T 3 0).toNat : Nat), M1) ∧ iv_ag M M1) (iI (ma_sm 0 (fun p => ma_now s T V p h)), M) (by omega)
    ⟨rfl, iv_ag.rf⟩
    (by
      rintro f i ⟨a0, N⟩ hi ⟨ha, hM⟩
      left
      simp only at ha hM
      subst ha
      have CN := C.ag W.2.1 hM
      obtain ⟨N1, e1, gM⟩ := c_nw W CN (p := i) (by omega) hh
      have e0 := c_crowd CN
      refine ⟨(iI (ma_sm (i + 1) (fun p => ma_now s T V p h)), N1), ?_, rfl, hM.tr gM⟩
      simp only [l_X11_cries_21]
      simp (disch := omega) only [qn0, qn1, qn2, qn3, qn4, qn5, qn6, qn7, qn8, qn9, qn10, qn11, qn12, qn13, qn14, qn15, qn16, qn17, qn18, qn24, qn30, qn31, qn32, qn33, qn36, qn38, qn40, qn41, qn42, qn43, qn45, qn47, qn48, qn49, qn50, qn51, qn52, qn53, qn57, qn58, qn59, qn60, qn61, qn62, qn63, qn91, qn93, qn97, qn99, qn100, qn103, qn104, qn112, qn113, qn115, qn116, qn118, qn119, qn121, qn124, qn173, qn177, qn240, qn255, qn295, qn352, qn353, qn533, qn999, qn1000, qn1023, qn6561, qn10000, qn20787, qn1000000, qn252645135, qn858993459, qn1000000000, qn1431655765, q_s1, q_s2, q_s3, q_s4, q_s5, iI_add, iI_sub, iI_mul, iI_neg, q_lt, q_le, q_eq, qz0, qz1, qz2, qz3, if_pos, if_neg, reduceIte, e0, e1, ma_sm])
    (by
      rintro f ⟨a0, N⟩ ⟨ha, hM⟩
      simp only at ha hM
      subst ha
      have CN := C.ag W.2.1 hM
      refine ⟨(iI (ma_sm (T 3 0).toNat (fun p => ma_now s T V p h)), iI ((T 3 0).toNat : Nat), N), ?_, N, rfl, hM⟩
      simp only [l_X11_cries_21]
      simp (disch := omega) only [qn0, qn1, qn2, qn3, qn4, qn5, qn6, qn7, qn8, qn9, qn10, qn11, qn12, qn13, qn14, qn15, qn16, qn17, qn18, qn24, qn30, qn31, qn32, qn33, qn36, qn38, qn40, qn41, qn42, qn43, qn45, qn47, qn48, qn49, qn50, qn51, qn52, qn53, qn57, qn58, qn59, qn60, qn61, qn62, qn63, qn91, qn93, qn97, qn99, qn100, qn103, qn104, qn112, qn113, qn115, qn116, qn118, qn119, qn121, qn124, qn173, qn177, qn240, qn255, qn295, qn352, qn353, qn533, qn999, qn1000, qn1023, qn6561, qn10000, qn20787, qn1000000, qn252645135, qn858993459, qn1000000000, qn1431655765, q_s1, q_s2, q_s3, q_s4, q_s5, iI_add, iI_sub, iI_mul, iI_neg, q_lt, q_le, q_eq, qz0, qz1, qz2, qz3, if_pos, if_neg, reduceIte, c_crowd CN])
  obtain ⟨M1, rfl, g⟩ := hr
  exact ⟨M1, e, g⟩
theorem m_cr_l (W : ma_W s T V) (D : ma_M s T V M) {h : Nat} (hh : (h : Int) < T 1 0) : ∃ M1, l_X12_cries_19 (iI h) gs_FU (iI (ma_sm 0 (fun p => ma_now s T V p h))) (iI 0) M = some (iI (ma_sm (T 3 0).toNat (fun p => ma_now s T V p h)), iI ((T 3 0).toNat : Nat), M1) ∧ iv_ag M M1 := by
  have f1 := W.2.1.1
  obtain ⟨r, e, hr⟩ := ma_up0 (fun f i (q9 : Int32 × gs_M) => l_X12_cries_19 (iI h) f q9.1 i q9.2) ((T 3 0).toNat)
    (fun i q9 => q9.1 = iI (ma_sm i (fun p => ma_now s T V p h)) ∧ iv_ag M q9.2)
    (fun r => ∃ M1, r = (iI (ma_sm (T 3 0).toNat (fun p => ma_now s T V p h)), iI ((T 3 0).toNat : Nat), M1) ∧ iv_ag M M1) (iI (ma_sm 0 (fun p => ma_now s T V p h)), M) (by omega)
    ⟨rfl, iv_ag.rf⟩
    (by
      rintro f i ⟨a0, N⟩ hi ⟨ha, hM⟩
      left
      simp only at ha hM
      subst ha
      have CN := D.ag W.2.1 hM
      obtain ⟨N1, e1, gM⟩ := m_nw W CN (p := i) (by omega) hh
      have e0 := CN.fo
      refine ⟨(iI (ma_sm (i + 1) (fun p => ma_now s T V p h)), N1), ?_, rfl, hM.tr gM⟩
      simp only [l_X12_cries_19]
      simp (disch := omega) only [qn0, qn1, qn2, qn3, qn4, qn5, qn6, qn7, qn8, qn9, qn10, qn11, qn12, qn13, qn14, qn15, qn16, qn17, qn18, qn24, qn30, qn31, qn32, qn33, qn36, qn38, qn40, qn41, qn42, qn43, qn45, qn47, qn48, qn49, qn50, qn51, qn52, qn53, qn57, qn58, qn59, qn60, qn61, qn62, qn63, qn91, qn93, qn97, qn99, qn100, qn103, qn104, qn112, qn113, qn115, qn116, qn118, qn119, qn121, qn124, qn173, qn177, qn240, qn255, qn295, qn352, qn353, qn533, qn999, qn1000, qn1023, qn6561, qn10000, qn20787, qn1000000, qn252645135, qn858993459, qn1000000000, qn1431655765, q_s1, q_s2, q_s3, q_s4, q_s5, iI_add, iI_sub, iI_mul, iI_neg, q_lt, q_le, q_eq, qz0, qz1, qz2, qz3, if_pos, if_neg, reduceIte, e0, e1, ma_sm])
    (by
      rintro f ⟨a0, N⟩ ⟨ha, hM⟩
      simp only at ha hM
      subst ha
      have CN := D.ag W.2.1 hM
      refine ⟨(iI (ma_sm (T 3 0).toNat (fun p => ma_now s T V p h)), iI ((T 3 0).toNat : Nat), N), ?_, N, rfl, hM⟩
      simp only [l_X12_cries_19]
      simp (disch := omega) only [qn0, qn1, qn2, qn3, qn4, qn5, qn6, qn7, qn8, qn9, qn10, qn11, qn12, qn13, qn14, qn15, qn16, qn17, qn18, qn24, qn30, qn31, qn32, qn33, qn36, qn38, qn40, qn41, qn42, qn43, qn45, qn47, qn48, qn49, qn50, qn51, qn52, qn53, qn57, qn58, qn59, qn60, qn61, qn62, qn63, qn91, qn93, qn97, qn99, qn100, qn103, qn104, qn112, qn113, qn115, qn116, qn118, qn119, qn121, qn124, qn173, qn177, qn240, qn255, qn295, qn352, qn353, qn533, qn999, qn1000, qn1023, qn6561, qn10000, qn20787, qn1000000, qn252645135, qn858993459, qn1000000000, qn1431655765, q_s1, q_s2, q_s3, q_s4, q_s5, iI_add, iI_sub, iI_mul, iI_neg, q_lt, q_le, q_eq, qz0, qz1, qz2, qz3, if_pos, if_neg, reduceIte, CN.fo])
  obtain ⟨M1, rfl, g⟩ := hr
  exact ⟨M1, e, g⟩
theorem c_nb_l (w : ma_ws s) (C : ma_sC s (M 10)) {p : Nat} (hp : p < 8) : l_X6_booksOf_4 M (iI p) gs_FU (iI (ma_sm 0 (ma_nf s p))) (iI 0) = some (iI (ma_sm (s 51).toNat (ma_nf s p)), iI ((s 51).toNat : Nat)) := by
  have f1 := w.2.2.1
  obtain ⟨r, e, hr⟩ := ma_up0 (fun f i (q9 : Int32) => l_X6_booksOf_4 M (iI p) f q9 i) ((s 51).toNat)
    (fun i q9 => q9 = iI (ma_sm i (ma_nf s p)))
    (fun r => r = (iI (ma_sm (s 51).toNat (ma_nf s p)), iI ((s 51).toNat : Nat))) (iI (ma_sm 0 (ma_nf s p))) (by omega)
    rfl
    (by
      rintro f i a0 hi ha
      left
      subst ha
      obtain ⟨-, -, u2, -⟩ := c_unp w (i := i) (by omega)
      have hb := w.2.2.2.2.1 i (by omega)
      unfold ma_pg at hb
      have e0 := c_books rfl C
      have e2 := c_bookAt C w (i := i) (by omega)
      by_cases c : s (54 + 5 * i) = p
      · refine ⟨iI (ma_sm (i + 1) (ma_nf s p)), ?_, rfl⟩
        simp only [l_X6_booksOf_4]
        simp (disch := omega) only [qn0, qn1, qn2, qn3, qn4, qn5, qn6, qn7, qn8, qn9, qn10, qn11, qn12, qn13, qn14, qn15, qn16, qn17, qn18, qn24, qn30, qn31, qn32, qn33, qn36, qn38, qn40, qn41, qn42, qn43, qn45, qn47, qn48, qn49, qn50, qn51, qn52, qn53, qn57, qn58, qn59, qn60, qn61, qn62, qn63, qn91, qn93, qn97, qn99, qn100, qn103, qn104, qn112, qn113, qn115, qn116, qn118, qn119, qn121, qn124, qn173, qn177, qn240, qn255, qn295, qn352, qn353, qn533, qn999, qn1000, qn1023, qn6561, qn10000, qn20787, qn1000000, qn252645135, qn858993459, qn1000000000, qn1431655765, q_s1, q_s2, q_s3, q_s4, q_s5, iI_add, iI_sub, iI_mul, iI_neg, q_lt, q_le, q_eq, qz0, qz1, qz2, qz3, if_pos, if_neg, reduceIte, e0, e2, u2, ma_sm, ma_nf]
      · refine ⟨iI (ma_sm (i + 1) (ma_nf s p)), ?_, rfl⟩
        simp only [l_X6_booksOf_4]
        simp (disch := omega) only [qn0, qn1, qn2, qn3, qn4, qn5, qn6, qn7, qn8, qn9, qn10, qn11, qn12, qn13, qn14, qn15, qn16, qn17, qn18, qn24, qn30, qn31, qn32, qn33, qn36, qn38, qn40, qn41, qn42, qn43, qn45, qn47, qn48, qn49, qn50, qn51, qn52, qn53, qn57, qn58, qn59, qn60, qn61, qn62, qn63, qn91, qn93, qn97, qn99, qn100, qn103, qn104, qn112, qn113, qn115, qn116, qn118, qn119, qn121, qn124, qn173, qn177, qn240, qn255, qn295, qn352, qn353, qn533, qn999, qn1000, qn1023, qn6561, qn10000, qn20787, qn1000000, qn252645135, qn858993459, qn1000000000, qn1431655765, q_s1, q_s2, q_s3, q_s4, q_s5, iI_add, iI_sub, iI_mul, iI_neg, q_lt, q_le, q_eq, qz0, qz1, qz2, qz3, if_pos, if_neg, reduceIte, e0, e2, u2, Int.add_zero, ma_sm, ma_nf])
    (by
      rintro f a0 ha
      subst ha
      refine ⟨(iI (ma_sm (s 51).toNat (ma_nf s p)), iI ((s 51).toNat : Nat)), ?_, rfl⟩
      simp only [l_X6_booksOf_4]
      simp (disch := omega) only [qn0, qn1, qn2, qn3, qn4, qn5, qn6, qn7, qn8, qn9, qn10, qn11, qn12, qn13, qn14, qn15, qn16, qn17, qn18, qn24, qn30, qn31, qn32, qn33, qn36, qn38, qn40, qn41, qn42, qn43, qn45, qn47, qn48, qn49, qn50, qn51, qn52, qn53, qn57, qn58, qn59, qn60, qn61, qn62, qn63, qn91, qn93, qn97, qn99, qn100, qn103, qn104, qn112, qn113, qn115, qn116, qn118, qn119, qn121, qn124, qn173, qn177, qn240, qn255, qn295, qn352, qn353, qn533, qn999, qn1000, qn1023, qn6561, qn10000, qn20787, qn1000000, qn252645135, qn858993459, qn1000000000, qn1431655765, q_s1, q_s2, q_s3, q_s4, q_s5, iI_add, iI_sub, iI_mul, iI_neg, q_lt, q_le, q_eq, qz0, qz1, qz2, qz3, if_pos, if_neg, reduceIte, c_books rfl C])
  subst hr
  exact e
theorem m_nb_l (w : ma_ws s) (D : ma_sM s (M 158)) {p : Nat} (hp : p < 8) : l_X12_pagesOf_4 M (iI p) gs_FU (iI (ma_sm 0 (ma_nf s p))) (iI 0) = some (iI (ma_sm (s 51).toNat (ma_nf s p)), iI ((s 51).toNat : Nat)) := by
  have f1 := w.2.2.1
  obtain ⟨r, e, hr⟩ := ma_up0 (fun f i (q9 : Int32) => l_X12_pagesOf_4 M (iI p) f q9 i) ((s 51).toNat)
    (fun i q9 => q9 = iI (ma_sm i (ma_nf s p)))
    (fun r => r = (iI (ma_sm (s 51).toNat (ma_nf s p)), iI ((s 51).toNat : Nat))) (iI (ma_sm 0 (ma_nf s p))) (by omega)
    rfl
    (by
      rintro f i a0 hi ha
      left
      subst ha
      have hb := w.2.2.2.2.1 i (by omega)
      unfold ma_pg at hb
      have e0 := m_bk D
      have u2 := m_page2 D (i := i) (by omega)
      by_cases c : s (54 + 5 * i) = p
      · refine ⟨iI (ma_sm (i + 1) (ma_nf s p)), ?_, rfl⟩
        simp only [l_X12_pagesOf_4]
        simp (disch := omega) only [qn0, qn1, qn2, qn3, qn4, qn5, qn6, qn7, qn8, qn9, qn10, qn11, qn12, qn13, qn14, qn15, qn16, qn17, qn18, qn24, qn30, qn31, qn32, qn33, qn36, qn38, qn40, qn41, qn42, qn43, qn45, qn47, qn48, qn49, qn50, qn51, qn52, qn53, qn57, qn58, qn59, qn60, qn61, qn62, qn63, qn91, qn93, qn97, qn99, qn100, qn103, qn104, qn112, qn113, qn115, qn116, qn118, qn119, qn121, qn124, qn173, qn177, qn240, qn255, qn295, qn352, qn353, qn533, qn999, qn1000, qn1023, qn6561, qn10000, qn20787, qn1000000, qn252645135, qn858993459, qn1000000000, qn1431655765, q_s1, q_s2, q_s3, q_s4, q_s5, iI_add, iI_sub, iI_mul, iI_neg, q_lt, q_le, q_eq, qz0, qz1, qz2, qz3, if_pos, if_neg, reduceIte, e0, u2, ma_sm, ma_nf]
      · refine ⟨iI (ma_sm (i + 1) (ma_nf s p)), ?_, rfl⟩
        simp only [l_X12_pagesOf_4]
        simp (disch := omega) only [qn0, qn1, qn2, qn3, qn4, qn5, qn6, qn7, qn8, qn9, qn10, qn11, qn12, qn13, qn14, qn15, qn16, qn17, qn18, qn24, qn30, qn31, qn32, qn33, qn36, qn38, qn40, qn41, qn42, qn43, qn45, qn47, qn48, qn49, qn50, qn51, qn52, qn53, qn57, qn58, qn59, qn60, qn61, qn62, qn63, qn91, qn93, qn97, qn99, qn100, qn103, qn104, qn112, qn113, qn115, qn116, qn118, qn119, qn121, qn124, qn173, qn177, qn240, qn255, qn295, qn352, qn353, qn533, qn999, qn1000, qn1023, qn6561, qn10000, qn20787, qn1000000, qn252645135, qn858993459, qn1000000000, qn1431655765, q_s1, q_s2, q_s3, q_s4, q_s5, iI_add, iI_sub, iI_mul, iI_neg, q_lt, q_le, q_eq, qz0, qz1, qz2, qz3, if_pos, if_neg, reduceIte, e0, u2, Int.add_zero, ma_sm, ma_nf])
    (by
      rintro f a0 ha
      subst ha
      refine ⟨(iI (ma_sm (s 51).toNat (ma_nf s p)), iI ((s 51).toNat : Nat)), ?_, rfl⟩
      simp only [l_X12_pagesOf_4]
      simp (disch := omega) only [qn0, qn1, qn2, qn3, qn4, qn5, qn6, qn7, qn8, qn9, qn10, qn11, qn12, qn13, qn14, qn15, qn16, qn17, qn18, qn24, qn30, qn31, qn32, qn33, qn36, qn38, qn40, qn41, qn42, qn43, qn45, qn47, qn48, qn49, qn50, qn51, qn52, qn53, qn57, qn58, qn59, qn60, qn61, qn62, qn63, qn91, qn93, qn97, qn99, qn100, qn103, qn104, qn112, qn113, qn115, qn116, qn118, qn119, qn121, qn124, qn173, qn177, qn240, qn255, qn295, qn352, qn353, qn533, qn999, qn1000, qn1023, qn6561, qn10000, qn20787, qn1000000, qn252645135, qn858993459, qn1000000000, qn1431655765, q_s1, q_s2, q_s3, q_s4, q_s5, iI_add, iI_sub, iI_mul, iI_neg, q_lt, q_le, q_eq, qz0, qz1, qz2, qz3, if_pos, if_neg, reduceIte, m_bk D])
  subst hr
  exact e
end Odds
