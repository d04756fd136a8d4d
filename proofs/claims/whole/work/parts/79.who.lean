/-! who it was, by LAMPS; what to look at next -/
section Who
variable {s : Nat → Int} {T : Nat → Nat → Int} {V : ma_V} {M : gs_M}
/-- WAKES at the k-th LAMP, if p has GUILT x -/
def ma_hw (s : Nat → Int) (T : Nat → Nat → Int) (V : ma_V) (x : Int) (p k : Nat) : Int := ma_wk s T V (T 6 (3 * k)).toNat (T 6 (3 * k + 1)).toNat (if T 6 (3 * k) = p then x else 0) (s (6 * (T 6 (3 * k)).toNat + 1))
def ma_hp (s : Nat → Int) (T : Nat → Nat → Int) (V : ma_V) (x : Int) (p : Nat) : Nat → Int
  | 0 => 1
  | k + 1 => ma_hp s T V x p k * (if T 6 (3 * k + 2) = 0 then 10 - ma_hw s T V x p k else ma_hw s T V x p k)
def ma_hd (s : Nat → Int) (T : Nat → Nat → Int) (V : ma_V) (x : Int) (p : Nat) : Int := ma_hp s T V x p (T 3 6).toNat
theorem ma_hp_b (s : Nat → Int) (T : Nat → Nat → Int) (V : ma_V) (x : Int) (p k : Nat) : 0 ≤ ma_hp s T V x p k ∧ ma_hp s T V x p k ≤ 10 ^ k := by
  induction k with
  | zero => simp [ma_hp]
  | succ k ih =>
    have h1 : 0 ≤ ma_hw s T V x p k ∧ ma_hw s T V x p k ≤ 10 := ma_wk_b _ _ _ _ _ _ _
    simp only [ma_hp]
    rw [Int.pow_succ]
    split
    · have h2 := ma_mul10 (x := ma_hp s T V x p k) (c := 10 - ma_hw s T V x p k) ih.1 (by omega)
      omega
    · have h2 := ma_mul10 (x := ma_hp s T V x p k) (c := ma_hw s T V x p k) ih.1 h1
      omega
theorem ma_hd_b (w : ma_wT T) (s : Nat → Int) (V : ma_V) (x : Int) (p : Nat) : 0 ≤ ma_hd s T V x p ∧ ma_hd s T V x p ≤ 1000000000000 := by
  obtain ⟨f1, f2, f3, f4, f5, f6, f7, f8, f9, f10, f11, -⟩ := w
  have h := ma_hp_b s T V x p (T 3 6).toNat
  have h3 : ∀ k : Nat, k < 13 → (10 : Int) ^ k ≤ 1000000000000 := by decide
  have h2 := h3 (T 3 6).toNat (by omega)
  unfold ma_hd
  omega
theorem c_held (W : ma_W s T V) (C : ma_C s T V M) {x : Int} (hx : 1 ≤ x ∧ x ≤ 9) {p : Nat} (hp : p < 8) : ∃ M1, f_X1_heldOf M (iI p) (iI x) = some (jI (ma_hd s T V x p), M1) ∧ iv_ag M M1 := by
  have w := W.2.1
  obtain ⟨f1, f2, f3, f4, f5, f6, f7, f8, f9, f10, f11, f12, f13, f14, f15, f16, f17, -⟩ := W.2.1
  obtain ⟨r, e, M1, rfl, g⟩ := ma_up0 (fun f i (q : Int64 × gs_M) => l_X1_heldOf_5 (iI p) (iI x) f q.1 i q.2) (T 3 6).toNat
    (fun i q => q.1 = jI (ma_hp s T V x p i) ∧ iv_ag M q.2)
    (fun r => ∃ M1, r = (jI (ma_hd s T V x p), iI ((T 3 6).toNat : Nat), M1) ∧ iv_ag M M1) (jI 1, M) (by omega) ⟨rfl, iv_ag.rf⟩
    (by
      rintro f i ⟨q, N⟩ hi ⟨hq, hM⟩
      simp only at hq hM
      subst hq
      left
      have CN := C.ag w hM
      have hl := f17 i (by omega)
      obtain ⟨l1, l2, l3⟩ := CN.lt (i := i) (by omega)
      obtain ⟨a, ha⟩ : ∃ a : Nat, T 6 (3 * i) = a := ⟨(T 6 (3 * i)).toNat, by omega⟩
      obtain ⟨h, hh⟩ : ∃ a : Nat, T 6 (3 * i + 1) = a := ⟨(T 6 (3 * i + 1)).toNat, by omega⟩
      have e1 : gs_rd N 135 12 (iI i) = some (iI a) := by rw [q_rdn i rfl (by omega) (by decide), l1, ha]
      have e2 : gs_rd N 136 12 (iI i) = some (iI h) := by rw [q_rdn i rfl (by omega) (by decide), l2, hh]
      obtain ⟨N1, e3, g3⟩ := c_with W CN (p := a) (h := h) (by omega) (by omega) (g := if T 6 (3 * i) = p then x else 0) (by split <;> omega)
      have hw : ma_wk s T V a h (if T 6 (3 * i) = p then x else 0) (s (6 * a + 1)) = ma_hw s T V x p i := by
        unfold ma_hw
        rw [ha, hh, Int.toNat_natCast, Int.toNat_natCast]
      rw [hw] at e3
      have bw : 0 ≤ ma_hw s T V x p i ∧ ma_hw s T V x p i ≤ 10 := ma_wk_b _ _ _ _ _ _ _
      have e4 : gs_rd N1 137 12 (iI i) = some (iI (T 6 (3 * i + 2))) := by rw [q_rdn i rfl (by omega) (by decide), g3 137 i rfl, l3]
      have e5 := CN.lp
      refine ⟨(jI (ma_hp s T V x p (i + 1)), N1), ?_, rfl, hM.tr g3⟩
      simp only [l_X1_heldOf_5, ma_hp]
      rcases (by omega : a = p ∨ a ≠ p) with c | c
      · rw [if_pos (by omega)] at e3
        rcases (by omega : T 6 (3 * i + 2) = 0 ∨ T 6 (3 * i + 2) = 1) with d | d <;> simp (disch := omega) only [qn0, qn1, qn2, qn3, qn4, qn5, qn6, qn7, qn8, qn9, qn10, qn11, qn12, qn13, qn14, qn15, qn16, qn17, qn18, qn24, qn30, qn31, qn32, qn33, qn36, qn38, qn40, qn41, qn42, qn43, qn45, qn47, qn48, qn49, qn50, qn51, qn52, qn53, qn57, qn58, qn59, qn60, qn61, qn62, qn63, qn91, qn93, qn97, qn99, qn100, qn103, qn104, qn112, qn113, qn115, qn116, qn118, qn119, qn121, qn124, qn173, qn177, qn240, qn255, qn295, qn352, qn353, qn533, qn999, qn1000, qn1023, qn6561, qn10000, qn20787, qn1000000, qn252645135, qn858993459, qn1000000000, qn1431655765, qj0, qj1, qj2, qj4, qj7, qj8, qj9, qj10, qj30, qj100, qj1000, qj1000000, qj1000000000, qj1442695040888963407, qj6364136223846793005, q_s1, q_s2, q_s3, q_s4, q_s5, iI_add, iI_sub, iI_mul, iI_neg, q_lt, q_le, q_eq, jI_add, jI_sub, jI_mul, jI_neg, jI_of, jI_to, j_le0, j_ge0, j_lt0, j_gt0, j_eq0, q_dvl, qz0, qz1, qz2, qz3, if_pos, if_neg, reduceIte, e5, e1, e2, e3, e4]
      · rw [if_neg (by omega)] at e3
        rcases (by omega : T 6 (3 * i + 2) = 0 ∨ T 6 (3 * i + 2) = 1) with d | d <;> simp (disch := omega) only [qn0, qn1, qn2, qn3, qn4, qn5, qn6, qn7, qn8, qn9, qn10, qn11, qn12, qn13, qn14, qn15, qn16, qn17, qn18, qn24, qn30, qn31, qn32, qn33, qn36, qn38, qn40, qn41, qn42, qn43, qn45, qn47, qn48, qn49, qn50, qn51, qn52, qn53, qn57, qn58, qn59, qn60, qn61, qn62, qn63, qn91, qn93, qn97, qn99, qn100, qn103, qn104, qn112, qn113, qn115, qn116, qn118, qn119, qn121, qn124, qn173, qn177, qn240, qn255, qn295, qn352, qn353, qn533, qn999, qn1000, qn1023, qn6561, qn10000, qn20787, qn1000000, qn252645135, qn858993459, qn1000000000, qn1431655765, qj0, qj1, qj2, qj4, qj7, qj8, qj9, qj10, qj30, qj100, qj1000, qj1000000, qj1000000000, qj1442695040888963407, qj6364136223846793005, q_s1, q_s2, q_s3, q_s4, q_s5, iI_add, iI_sub, iI_mul, iI_neg, q_lt, q_le, q_eq, jI_add, jI_sub, jI_mul, jI_neg, jI_of, jI_to, j_le0, j_ge0, j_lt0, j_gt0, j_eq0, q_dvl, qz0, qz1, qz2, qz3, if_pos, if_neg, reduceIte, e5, e1, e2, e3, e4])
    (by
      rintro f ⟨q, N⟩ ⟨hq, hM⟩
      simp only at hq hM
      subst hq
      have CN := C.ag w hM
      refine ⟨_, ?_, N, rfl, hM⟩
      simp only [l_X1_heldOf_5]
      simp (disch := omega) only [qn0, qn1, qn2, qn3, qn4, qn5, qn6, qn7, qn8, qn9, qn10, qn11, qn12, qn13, qn14, qn15, qn16, qn17, qn18, qn24, qn30, qn31, qn32, qn33, qn36, qn38, qn40, qn41, qn42, qn43, qn45, qn47, qn48, qn49, qn50, qn51, qn52, qn53, qn57, qn58, qn59, qn60, qn61, qn62, qn63, qn91, qn93, qn97, qn99, qn100, qn103, qn104, qn112, qn113, qn115, qn116, qn118, qn119, qn121, qn124, qn173, qn177, qn240, qn255, qn295, qn352, qn353, qn533, qn999, qn1000, qn1023, qn6561, qn10000, qn20787, qn1000000, qn252645135, qn858993459, qn1000000000, qn1431655765, qj0, qj1, qj2, qj4, qj7, qj8, qj9, qj10, qj30, qj100, qj1000, qj1000000, qj1000000000, qj1442695040888963407, qj6364136223846793005, q_s1, q_s2, q_s3, q_s4, q_s5, iI_add, iI_sub, iI_mul, iI_neg, q_lt, q_le, q_eq, jI_add, jI_sub, jI_mul, jI_neg, jI_of, jI_to, j_le0, j_ge0, j_lt0, j_gt0, j_eq0, q_dvl, qz0, qz1, qz2, qz3, if_pos, if_neg, reduceIte, CN.lp]
      rfl)
  refine ⟨M1, ?_, g⟩
  have e' : l_X1_heldOf_5 (iI p) (iI x) gs_FU (jI 1) (iI 0) M = some (jI (ma_hd s T V x p), iI ((T 3 6).toNat : Nat), M1) := e
  unfold f_X1_heldOf
  simp (disch := omega) only [qn0, qn1, qn2, qn3, qn4, qn5, qn6, qn7, qn8, qn9, qn10, qn11, qn12, qn13, qn14, qn15, qn16, qn17, qn18, qn24, qn30, qn31, qn32, qn33, qn36, qn38, qn40, qn41, qn42, qn43, qn45, qn47, qn48, qn49, qn50, qn51, qn52, qn53, qn57, qn58, qn59, qn60, qn61, qn62, qn63, qn91, qn93, qn97, qn99, qn100, qn103, qn104, qn112, qn113, qn115, qn116, qn118, qn119, qn121, qn124, qn173, qn177, qn240, qn255, qn295, qn352, qn353, qn533, qn999, qn1000, qn1023, qn6561, qn10000, qn20787, qn1000000, qn252645135, qn858993459, qn1000000000, qn1431655765, qj0, qj1, qj2, qj4, qj7, qj8, qj9, qj10, qj30, qj100, qj1000, qj1000000, qj1000000000, qj1442695040888963407, qj6364136223846793005, q_s1, q_s2, q_s3, q_s4, q_s5, iI_add, iI_sub, iI_mul, iI_neg, q_lt, q_le, q_eq, jI_add, jI_sub, jI_mul, jI_neg, jI_of, jI_to, j_le0, j_ge0, j_lt0, j_gt0, j_eq0, q_dvl, qz0, qz1, qz2, qz3, if_pos, if_neg, reduceIte, e']
theorem m_held (W : ma_W s T V) (C : ma_M s T V M) {x : Int} (hx : 1 ≤ x ∧ x ≤ 9) {p : Nat} (hp : p < 8) : ∃ M1, f_X12_held M (iI p) (iI x) = some (jI (ma_hd s T V x p), M1) ∧ iv_ag M M1 := by
  have w := W.2.1
  obtain ⟨f1, f2, f3, f4, f5, f6, f7, f8, f9, f10, f11, f12, f13, f14, f15, f16, f17, -⟩ := W.2.1
  obtain ⟨r, e, M1, rfl, g⟩ := ma_up0 (fun f i (q : Int64 × gs_M) => l_X12_held_5 (iI p) (iI x) f q.1 i q.2) (T 3 6).toNat
    (fun i q => q.1 = jI (ma_hp s T V x p i) ∧ iv_ag M q.2)
    (fun r => ∃ M1, r = (jI (ma_hd s T V x p), iI ((T 3 6).toNat : Nat), M1) ∧ iv_ag M M1) (jI 1, M) (by omega) ⟨rfl, iv_ag.rf⟩
    (by
      rintro f i ⟨q, N⟩ hi ⟨hq, hM⟩
      simp only at hq hM
      subst hq
      left
      have CN := C.ag w hM
      have hl := f17 i (by omega)
      obtain ⟨l1, l2, l3⟩ := CN.lt (i := i) (by omega)
      obtain ⟨a, ha⟩ : ∃ a : Nat, T 6 (3 * i) = a := ⟨(T 6 (3 * i)).toNat, by omega⟩
      obtain ⟨h, hh⟩ : ∃ a : Nat, T 6 (3 * i + 1) = a := ⟨(T 6 (3 * i + 1)).toNat, by omega⟩
      have e1 : gs_rd N 162 12 (iI i) = some (iI a) := by rw [q_rdn i rfl (by omega) (by decide), l1, ha]
      have e2 : gs_rd N 163 12 (iI i) = some (iI h) := by rw [q_rdn i rfl (by omega) (by decide), l2, hh]
      obtain ⟨N1, e3, g3⟩ := m_wk W CN (p := a) (h := h) (by omega) (by omega) (g := if T 6 (3 * i) = p then x else 0) (by split <;> omega)
      have hw : ma_wk s T V a h (if T 6 (3 * i) = p then x else 0) (s (6 * a + 1)) = ma_hw s T V x p i := by
        unfold ma_hw
        rw [ha, hh, Int.toNat_natCast, Int.toNat_natCast]
      rw [hw] at e3
      have bw : 0 ≤ ma_hw s T V x p i ∧ ma_hw s T V x p i ≤ 10 := ma_wk_b _ _ _ _ _ _ _
      have e4 : gs_rd N1 164 12 (iI i) = some (iI (T 6 (3 * i + 2))) := by rw [q_rdn i rfl (by omega) (by decide), g3 164 i rfl, l3]
      have e5 := CN.lp
      refine ⟨(jI (ma_hp s T V x p (i + 1)), N1), ?_, rfl, hM.tr g3⟩
      simp only [l_X12_held_5, ma_hp]
      rcases (by omega : a = p ∨ a ≠ p) with c | c
      · rw [if_pos (by omega)] at e3
        rcases (by omega : T 6 (3 * i + 2) = 0 ∨ T 6 (3 * i + 2) = 1) with d | d <;> simp (disch := omega) only [qn0, qn1, qn2, qn3, qn4, qn5, qn6, qn7, qn8, qn9, qn10, qn11, qn12, qn13, qn14, qn15, qn16, qn17, qn18, qn24, qn30, qn31, qn32, qn33, qn36, qn38, qn40, qn41, qn42, qn43, qn45, qn47, qn48, qn49, qn50, qn51, qn52, qn53, qn57, qn58, qn59, qn60, qn61, qn62, qn63, qn91, qn93, qn97, qn99, qn100, qn103, qn104, qn112, qn113, qn115, qn116, qn118, qn119, qn121, qn124, qn173, qn177, qn240, qn255, qn295, qn352, qn353, qn533, qn999, qn1000, qn1023, qn6561, qn10000, qn20787, qn1000000, qn252645135, qn858993459, qn1000000000, qn1431655765, qj0, qj1, qj2, qj4, qj7, qj8, qj9, qj10, qj30, qj100, qj1000, qj1000000, qj1000000000, qj1442695040888963407, qj6364136223846793005, q_s1, q_s2, q_s3, q_s4, q_s5, iI_add, iI_sub, iI_mul, iI_neg, q_lt, q_le, q_eq, jI_add, jI_sub, jI_mul, jI_neg, jI_of, jI_to, j_le0, j_ge0, j_lt0, j_gt0, j_eq0, q_dvl, qz0, qz1, qz2, qz3, if_pos, if_neg, reduceIte, e5, e1, e2, e3, e4]
      · rw [if_neg (by omega)] at e3
        rcases (by omega : T 6 (3 * i + 2) = 0 ∨ T 6 (3 * i + 2) = 1) with d | d <;> simp (disch := omega) only [qn0, qn1, qn2, qn3, qn4, qn5, qn6, qn7, qn8, qn9, qn10, qn11, qn12, qn13, qn14, qn15, qn16, qn17, qn18, qn24, qn30, qn31, qn32, qn33, qn36, qn38, qn40, qn41, qn42, qn43, qn45, qn47, qn48, qn49, qn50, qn51, qn52, qn53, qn57, qn58, qn59, qn60, qn61, qn62, qn63, qn91, qn93, qn97, qn99, qn100, qn103, qn104, qn112, qn113, qn115, qn116, qn118, qn119, qn121, qn124, qn173, qn177, qn240, qn255, qn295, qn352, qn353, qn533, qn999, qn1000, qn1023, qn6561, qn10000, qn20787, qn1000000, qn252645135, qn858993459, qn1000000000, qn1431655765, qj0, qj1, qj2, qj4, qj7, qj8, qj9, qj10, qj30, qj100, qj1000, qj1000000, qj1000000000, qj1442695040888963407, qj6364136223846793005, q_s1, q_s2, q_s3, q_s4, q_s5, iI_add, iI_sub, iI_mul, iI_neg, q_lt, q_le, q_eq, jI_add, jI_sub, jI_mul, jI_neg, jI_of, jI_to, j_le0, j_ge0, j_lt0, j_gt0, j_eq0, q_dvl, qz0, qz1, qz2, qz3, if_pos, if_neg, reduceIte, e5, e1, e2, e3, e4])
    (by
      rintro f ⟨q, N⟩ ⟨hq, hM⟩
      simp only at hq hM
      subst hq
      have CN := C.ag w hM
      refine ⟨_, ?_, N, rfl, hM⟩
      simp only [l_X12_held_5]
      simp (disch := omega) only [qn0, qn1, qn2, qn3, qn4, qn5, qn6, qn7, qn8, qn9, qn10, qn11, qn12, qn13, qn14, qn15, qn16, qn17, qn18, qn24, qn30, qn31, qn32, qn33, qn36, qn38, qn40, qn41, qn42, qn43, qn45, qn47, qn48, qn49, qn50, qn51, qn52, qn53, qn57, qn58, qn59, qn60, qn61, qn62, qn63, qn91, qn93, qn97, qn99, qn100, qn103, qn104, qn112, qn113, qn115, qn116, qn118, qn119, qn121, qn124, qn173, qn177, qn240, qn255, qn295, qn352, qn353, qn533, qn999, qn1000, qn1023, qn6561, qn10000, qn20787, qn1000000, qn252645135, qn858993459, qn1000000000, qn1431655765, qj0, qj1, qj2, qj4, qj7, qj8, qj9, qj10, qj30, qj100, qj1000, qj1000000, qj1000000000, qj1442695040888963407, qj6364136223846793005, q_s1, q_s2, q_s3, q_s4, q_s5, iI_add, iI_sub, iI_mul, iI_neg, q_lt, q_le, q_eq, jI_add, jI_sub, jI_mul, jI_neg, jI_of, jI_to, j_le0, j_ge0, j_lt0, j_gt0, j_eq0, q_dvl, qz0, qz1, qz2, qz3, if_pos, if_neg, reduceIte, CN.lp]
      rfl)
  refine ⟨M1, ?_, g⟩
  have e' : l_X12_held_5 (iI p) (iI x) gs_FU (jI 1) (iI 0) M = some (jI (ma_hd s T V x p), iI ((T 3 6).toNat : Nat), M1) := e
  unfold f_X12_held
  simp (disch := omega) only [qn0, qn1, qn2, qn3, qn4, qn5, qn6, qn7, qn8, qn9, qn10, qn11, qn12, qn13, qn14, qn15, qn16, qn17, qn18, qn24, qn30, qn31, qn32, qn33, qn36, qn38, qn40, qn41, qn42, qn43, qn45, qn47, qn48, qn49, qn50, qn51, qn52, qn53, qn57, qn58, qn59, qn60, qn61, qn62, qn63, qn91, qn93, qn97, qn99, qn100, qn103, qn104, qn112, qn113, qn115, qn116, qn118, qn119, qn121, qn124, qn173, qn177, qn240, qn255, qn295, qn352, qn353, qn533, qn999, qn1000, qn1023, qn6561, qn10000, qn20787, qn1000000, qn252645135, qn858993459, qn1000000000, qn1431655765, qj0, qj1, qj2, qj4, qj7, qj8, qj9, qj10, qj30, qj100, qj1000, qj1000000, qj1000000000, qj1442695040888963407, qj6364136223846793005, q_s1, q_s2, q_s3, q_s4, q_s5, iI_add, iI_sub, iI_mul, iI_neg, q_lt, q_le, q_eq, jI_add, jI_sub, jI_mul, jI_neg, jI_of, jI_to, j_le0, j_ge0, j_lt0, j_gt0, j_eq0, q_dvl, qz0, qz1, qz2, qz3, if_pos, if_neg, reduceIte, e']
theorem c_weigh (W : ma_W s T V) (C : ma_C s T V M) {x : Int} (hx : 1 ≤ x ∧ x ≤ 9) (L : gs_L) : ∃ M1 L1, f_X1_weigh M L (iI x) = some (M1, L1) ∧ iv_ag M M1 ∧ ∀ p : Nat, (p : Int) < T 3 0 → L1 138 p = jI (ma_hd s T V x p) := by
  have w := W.2.1
  have f1 := W.2.1.1
  obtain ⟨r, e, M1, L1, rfl, g, h⟩ := ma_up0 (fun f i (q : gs_M × gs_L) => l_X1_weigh_2 (iI x) f i q.1 q.2) (T 3 0).toNat
    (fun i q => iv_ag M q.1 ∧ ∀ j, j < i → q.2 138 j = jI (ma_hd s T V x j))
    (fun r => ∃ M1 L1, r = (iI ((T 3 0).toNat : Nat), M1, L1) ∧ iv_ag M M1 ∧ ∀ j, j < (T 3 0).toNat → L1 138 j = jI (ma_hd s T V x j)) (M, L) (by omega) ⟨iv_ag.rf, fun j hj => by omega⟩
    (by
      rintro f i ⟨N, L0⟩ hi ⟨hM, hL⟩
      simp only at hM hL
      left
      have CN := C.ag w hM
      obtain ⟨N1, e1, g1⟩ := c_held W CN hx (p := i) (by omega)
      have e2 : ∀ v, gs_wrl L0 138 8 (iI i) v = some (gs_upl L0 138 i v) := fun v => q_wrln i rfl (by omega) (by decide)
      refine ⟨(N1, gs_upl L0 138 i (jI (ma_hd s T V x i))), ?_, hM.tr g1, fun j hj => ?_⟩
      · simp only [l_X1_weigh_2]
        simp (disch := omega) only [qn0, qn1, qn2, qn3, qn4, qn5, qn6, qn7, qn8, qn9, qn10, qn11, qn12, qn13, qn14, qn15, qn16, qn17, qn18, qn24, qn30, qn31, qn32, qn33, qn36, qn38, qn40, qn41, qn42, qn43, qn45, qn47, qn48, qn49, qn50, qn51, qn52, qn53, qn57, qn58, qn59, qn60, qn61, qn62, qn63, qn91, qn93, qn97, qn99, qn100, qn103, qn104, qn112, qn113, qn115, qn116, qn118, qn119, qn121, qn124, qn173, qn177, qn240, qn255, qn295, qn352, qn353, qn533, qn999, qn1000, qn1023, qn6561, qn10000, qn20787, qn1000000, qn252645135, qn858993459, qn1000000000, qn1431655765, q_s1, q_s2, q_s3, q_s4, q_s5, iI_add, iI_sub, iI_mul, iI_neg, q_lt, q_le, q_eq, qz0, qz1, qz2, qz3, if_pos, if_neg, reduceIte, c_crowd CN, e1, e2]
      · show gs_upl L0 138 i _ 138 j = _
        rw [gs_upl_at]
        by_cases c : j = i
        · rw [if_pos ⟨rfl, c⟩, c]
        · rw [if_neg (fun z => c z.2)]
          exact hL j (by omega))
    (by
      rintro f ⟨N, L0⟩ ⟨hM, hL⟩
      have CN := C.ag w hM
      refine ⟨_, ?_, N, L0, rfl, hM, hL⟩
      simp only [l_X1_weigh_2]
      simp (disch := omega) only [qn0, qn1, qn2, qn3, qn4, qn5, qn6, qn7, qn8, qn9, qn10, qn11, qn12, qn13, qn14, qn15, qn16, qn17, qn18, qn24, qn30, qn31, qn32, qn33, qn36, qn38, qn40, qn41, qn42, qn43, qn45, qn47, qn48, qn49, qn50, qn51, qn52, qn53, qn57, qn58, qn59, qn60, qn61, qn62, qn63, qn91, qn93, qn97, qn99, qn100, qn103, qn104, qn112, qn113, qn115, qn116, qn118, qn119, qn121, qn124, qn173, qn177, qn240, qn255, qn295, qn352, qn353, qn533, qn999, qn1000, qn1023, qn6561, qn10000, qn20787, qn1000000, qn252645135, qn858993459, qn1000000000, qn1431655765, q_s1, q_s2, q_s3, q_s4, q_s5, iI_add, iI_sub, iI_mul, iI_neg, q_lt, q_le, q_eq, qz0, qz1, qz2, qz3, if_pos, if_neg, reduceIte, c_crowd CN])
  refine ⟨M1, L1, ?_, g, fun p hp => h p (by omega)⟩
  have e' : l_X1_weigh_2 (iI x) gs_FU (iI 0) M L = some (iI ((T 3 0).toNat : Nat), M1, L1) := e
  unfold f_X1_weigh
  simp (disch := omega) only [qn0, qn1, qn2, qn3, qn4, qn5, qn6, qn7, qn8, qn9, qn10, qn11, qn12, qn13, qn14, qn15, qn16, qn17, qn18, qn24, qn30, qn31, qn32, qn33, qn36, qn38, qn40, qn41, qn42, qn43, qn45, qn47, qn48, qn49, qn50, qn51, qn52, qn53, qn57, qn58, qn59, qn60, qn61, qn62, qn63, qn91, qn93, qn97, qn99, qn100, qn103, qn104, qn112, qn113, qn115, qn116, qn118, qn119, qn121, qn124, qn173, qn177, qn240, qn255, qn295, qn352, qn353, qn533, qn999, qn1000, qn1023, qn6561, qn10000, qn20787, qn1000000, qn252645135, qn858993459, qn1000000000, qn1431655765, q_s1, q_s2, q_s3, q_s4, q_s5, iI_add, iI_sub, iI_mul, iI_neg, q_lt, q_le, q_eq, qz0, qz1, qz2, qz3, if_pos, if_neg, reduceIte, e']
theorem c_lko (W : ma_W s T V) (C : ma_C s T V M) (h0 : 0 < T 3 0) {x : Int} {L : gs_L} (hL : ∀ p : Nat, (p : Int) < T 3 0 → L 138 p = jI (ma_hd s T V x p)) : f_X1_likeliestOne M L = some (iI (ma_am (ma_hd s T V x) (T 3 0).toNat : Nat)) := by
  have w := W.2.1
  have f1 := W.2.1.1
  have e0 := c_crowd C
  obtain ⟨r, e, hr⟩ := ma_up1 (fun f i (q : Int32) => l_X1_likeliestOne_4 M L f q i) (T 3 0).toNat
    (fun i q => q = iI (ma_am (ma_hd s T V x) i : Nat)) (fun r => r = (iI (ma_am (ma_hd s T V x) (T 3 0).toNat : Nat), iI ((T 3 0).toNat : Nat))) (iI 0) (by omega) (by omega) (by rw [ma_am_1]; rfl)
    (by
      rintro f i q hi rfl
      left
      have b3 : ma_am (ma_hd s T V x) i ≤ i - 1 := ma_am_b _ i
      have b1 := ma_hd_b w s V x i
      have b2 := ma_hd_b w s V x (ma_am (ma_hd s T V x) i)
      have e1 : gs_rdl L 138 8 (iI i) = some (jI (ma_hd s T V x i)) := by rw [q_rdln i rfl (by omega) (by decide), hL i (by omega)]
      have e2 : gs_rdl L 138 8 (iI (ma_am (ma_hd s T V x) i : Nat)) = some (jI (ma_hd s T V x (ma_am (ma_hd s T V x) i))) := by rw [q_rdln _ rfl (by omega) (by decide), hL _ (by omega)]
      refine ⟨_, ?_, rfl⟩
      rw [ma_am_s]
      simp only [l_X1_likeliestOne_4]
      rcases (by omega : ma_hd s T V x i ≤ ma_hd s T V x (ma_am (ma_hd s T V x) i) ∨ ma_hd s T V x (ma_am (ma_hd s T V x) i) < ma_hd s T V x i) with c | c <;> simp (disch := omega) only [qn0, qn1, qn2, qn3, qn4, qn5, qn6, qn7, qn8, qn9, qn10, qn11, qn12, qn13, qn14, qn15, qn16, qn17, qn18, qn24, qn30, qn31, qn32, qn33, qn36, qn38, qn40, qn41, qn42, qn43, qn45, qn47, qn48, qn49, qn50, qn51, qn52, qn53, qn57, qn58, qn59, qn60, qn61, qn62, qn63, qn91, qn93, qn97, qn99, qn100, qn103, qn104, qn112, qn113, qn115, qn116, qn118, qn119, qn121, qn124, qn173, qn177, qn240, qn255, qn295, qn352, qn353, qn533, qn999, qn1000, qn1023, qn6561, qn10000, qn20787, qn1000000, qn252645135, qn858993459, qn1000000000, qn1431655765, qj0, qj1, qj2, qj4, qj7, qj8, qj9, qj10, qj30, qj100, qj1000, qj1000000, qj1000000000, qj1442695040888963407, qj6364136223846793005, q_s1, q_s2, q_s3, q_s4, q_s5, iI_add, iI_sub, iI_mul, iI_neg, q_lt, q_le, q_eq, jI_add, jI_sub, jI_mul, jI_neg, jI_of, jI_to, j_le0, j_ge0, j_lt0, j_gt0, j_eq0, q_dvl, qz0, qz1, qz2, qz3, if_pos, if_neg, reduceIte, e0, e1, e2])
    (by
      rintro f q rfl
      refine ⟨_, ?_, rfl⟩
      simp only [l_X1_likeliestOne_4]
      simp (disch := omega) only [qn0, qn1, qn2, qn3, qn4, qn5, qn6, qn7, qn8, qn9, qn10, qn11, qn12, qn13, qn14, qn15, qn16, qn17, qn18, qn24, qn30, qn31, qn32, qn33, qn36, qn38, qn40, qn41, qn42, qn43, qn45, qn47, qn48, qn49, qn50, qn51, qn52, qn53, qn57, qn58, qn59, qn60, qn61, qn62, qn63, qn91, qn93, qn97, qn99, qn100, qn103, qn104, qn112, qn113, qn115, qn116, qn118, qn119, qn121, qn124, qn173, qn177, qn240, qn255, qn295, qn352, qn353, qn533, qn999, qn1000, qn1023, qn6561, qn10000, qn20787, qn1000000, qn252645135, qn858993459, qn1000000000, qn1431655765, qj0, qj1, qj2, qj4, qj7, qj8, qj9, qj10, qj30, qj100, qj1000, qj1000000, qj1000000000, qj1442695040888963407, qj6364136223846793005, q_s1, q_s2, q_s3, q_s4, q_s5, iI_add, iI_sub, iI_mul, iI_neg, q_lt, q_le, q_eq, jI_add, jI_sub, jI_mul, jI_neg, jI_of, jI_to, j_le0, j_ge0, j_lt0, j_gt0, j_eq0, q_dvl, qz0, qz1, qz2, qz3, if_pos, if_neg, reduceIte, e0])
  subst hr
  have e' : l_X1_likeliestOne_4 M L gs_FU (iI 0) (iI 1) = some (iI (ma_am (ma_hd s T V x) (T 3 0).toNat : Nat), iI ((T 3 0).toNat : Nat)) := e
  unfold f_X1_likeliestOne
  simp (disch := omega) only [qn0, qn1, qn2, qn3, qn4, qn5, qn6, qn7, qn8, qn9, qn10, qn11, qn12, qn13, qn14, qn15, qn16, qn17, qn18, qn24, qn30, qn31, qn32, qn33, qn36, qn38, qn40, qn41, qn42, qn43, qn45, qn47, qn48, qn49, qn50, qn51, qn52, qn53, qn57, qn58, qn59, qn60, qn61, qn62, qn63, qn91, qn93, qn97, qn99, qn100, qn103, qn104, qn112, qn113, qn115, qn116, qn118, qn119, qn121, qn124, qn173, qn177, qn240, qn255, qn295, qn352, qn353, qn533, qn999, qn1000, qn1023, qn6561, qn10000, qn20787, qn1000000, qn252645135, qn858993459, qn1000000000, qn1431655765, qj0, qj1, qj2, qj4, qj7, qj8, qj9, qj10, qj30, qj100, qj1000, qj1000000, qj1000000000, qj1442695040888963407, qj6364136223846793005, q_s1, q_s2, q_s3, q_s4, q_s5, iI_add, iI_sub, iI_mul, iI_neg, q_lt, q_le, q_eq, jI_add, jI_sub, jI_mul, jI_neg, jI_of, jI_to, j_le0, j_ge0, j_lt0, j_gt0, j_eq0, q_dvl, qz0, qz1, qz2, qz3, if_pos, if_neg, reduceIte, e']
def ma_su1 (s : Nat → Int) (T : Nat → Nat → Int) (V : ma_V) (x : Int) : Int := if 0 < ma_sm (T 3 0).toNat (ma_hd s T V x) then (ma_hd s T V x (ma_am (ma_hd s T V x) (T 3 0).toNat) * 1000).tdiv (ma_sm (T 3 0).toNat (ma_hd s T V x)) else 0
theorem ma_su1_b (w : ma_wT T) (s : Nat → Int) (V : ma_V) (x : Int) : 0 ≤ ma_sm (T 3 0).toNat (ma_hd s T V x) ∧ ma_sm (T 3 0).toNat (ma_hd s T V x) ≤ 8000000000000 := by
  have f1 := w.1
  have h := ma_sm_b (n := (T 3 0).toNat) (f := ma_hd s T V x) (a := 0) (b := 1000000000000) (fun i _ => ma_hd_b w s V x i)
  omega
theorem c_sure (W : ma_W s T V) (C : ma_C s T V M) (h0 : 0 < T 3 0) {x : Int} {L : gs_L} (hL : ∀ p : Nat, (p : Int) < T 3 0 → L 138 p = jI (ma_hd s T V x p)) : f_X1_sureness M L = some (iI (ma_su1 s T V x)) := by
  have w := W.2.1
  have f1 := W.2.1.1
  have e0 := c_crowd C
  obtain ⟨r, e, hr⟩ := ma_up0 (fun f i (q : Int64) => l_X1_sureness_4 M L f q i) (T 3 0).toNat
    (fun i q => q = jI (ma_sm i (ma_hd s T V x))) (fun r => r = (jI (ma_sm (T 3 0).toNat (ma_hd s T V x)), iI ((T 3 0).toNat : Nat))) (jI 0) (by omega) rfl
    (by
      rintro f i q hi rfl
      left
      have e1 : gs_rdl L 138 8 (iI i) = some (jI (ma_hd s T V x i)) := by rw [q_rdln i rfl (by omega) (by decide), hL i (by omega)]
      refine ⟨_, ?_, rfl⟩
      simp only [l_X1_sureness_4, ma_sm]
      simp (disch := omega) only [qn0, qn1, qn2, qn3, qn4, qn5, qn6, qn7, qn8, qn9, qn10, qn11, qn12, qn13, qn14, qn15, qn16, qn17, qn18, qn24, qn30, qn31, qn32, qn33, qn36, qn38, qn40, qn41, qn42, qn43, qn45, qn47, qn48, qn49, qn50, qn51, qn52, qn53, qn57, qn58, qn59, qn60, qn61, qn62, qn63, qn91, qn93, qn97, qn99, qn100, qn103, qn104, qn112, qn113, qn115, qn116, qn118, qn119, qn121, qn124, qn173, qn177, qn240, qn255, qn295, qn352, qn353, qn533, qn999, qn1000, qn1023, qn6561, qn10000, qn20787, qn1000000, qn252645135, qn858993459, qn1000000000, qn1431655765, qj0, qj1, qj2, qj4, qj7, qj8, qj9, qj10, qj30, qj100, qj1000, qj1000000, qj1000000000, qj1442695040888963407, qj6364136223846793005, q_s1, q_s2, q_s3, q_s4, q_s5, iI_add, iI_sub, iI_mul, iI_neg, q_lt, q_le, q_eq, jI_add, jI_sub, jI_mul, jI_neg, jI_of, jI_to, j_le0, j_ge0, j_lt0, j_gt0, j_eq0, q_dvl, qz0, qz1, qz2, qz3, if_pos, if_neg, reduceIte, e0, e1])
    (by
      rintro f q rfl
      refine ⟨_, ?_, rfl⟩
      simp only [l_X1_sureness_4]
      simp (disch := omega) only [qn0, qn1, qn2, qn3, qn4, qn5, qn6, qn7, qn8, qn9, qn10, qn11, qn12, qn13, qn14, qn15, qn16, qn17, qn18, qn24, qn30, qn31, qn32, qn33, qn36, qn38, qn40, qn41, qn42, qn43, qn45, qn47, qn48, qn49, qn50, qn51, qn52, qn53, qn57, qn58, qn59, qn60, qn61, qn62, qn63, qn91, qn93, qn97, qn99, qn100, qn103, qn104, qn112, qn113, qn115, qn116, qn118, qn119, qn121, qn124, qn173, qn177, qn240, qn255, qn295, qn352, qn353, qn533, qn999, qn1000, qn1023, qn6561, qn10000, qn20787, qn1000000, qn252645135, qn858993459, qn1000000000, qn1431655765, qj0, qj1, qj2, qj4, qj7, qj8, qj9, qj10, qj30, qj100, qj1000, qj1000000, qj1000000000, qj1442695040888963407, qj6364136223846793005, q_s1, q_s2, q_s3, q_s4, q_s5, iI_add, iI_sub, iI_mul, iI_neg, q_lt, q_le, q_eq, jI_add, jI_sub, jI_mul, jI_neg, jI_of, jI_to, j_le0, j_ge0, j_lt0, j_gt0, j_eq0, q_dvl, qz0, qz1, qz2, qz3, if_pos, if_neg, reduceIte, e0])
  subst hr
  have e' : l_X1_sureness_4 M L gs_FU (jI 0) (iI 0) = some (jI (ma_sm (T 3 0).toNat (ma_hd s T V x)), iI ((T 3 0).toNat : Nat)) := e
  have bs := ma_su1_b w s V x
  have ba := ma_hd_b w s V x (ma_am (ma_hd s T V x) (T 3 0).toNat)
  have b3 : ma_am (ma_hd s T V x) (T 3 0).toNat ≤ (T 3 0).toNat - 1 := ma_am_b _ _
  have e2 := c_lko W C h0 hL
  have e3 : gs_rdl L 138 8 (iI (ma_am (ma_hd s T V x) (T 3 0).toNat : Nat)) = some (jI (ma_hd s T V x (ma_am (ma_hd s T V x) (T 3 0).toNat))) := by rw [q_rdln _ rfl (by omega) (by decide), hL _ (by omega)]
  unfold f_X1_sureness ma_su1
  by_cases c : 0 < ma_sm (T 3 0).toNat (ma_hd s T V x) <;> simp (disch := omega) only [qn0, qn1, qn2, qn3, qn4, qn5, qn6, qn7, qn8, qn9, qn10, qn11, qn12, qn13, qn14, qn15, qn16, qn17, qn18, qn24, qn30, qn31, qn32, qn33, qn36, qn38, qn40, qn41, qn42, qn43, qn45, qn47, qn48, qn49, qn50, qn51, qn52, qn53, qn57, qn58, qn59, qn60, qn61, qn62, qn63, qn91, qn93, qn97, qn99, qn100, qn103, qn104, qn112, qn113, qn115, qn116, qn118, qn119, qn121, qn124, qn173, qn177, qn240, qn255, qn295, qn352, qn353, qn533, qn999, qn1000, qn1023, qn6561, qn10000, qn20787, qn1000000, qn252645135, qn858993459, qn1000000000, qn1431655765, qj0, qj1, qj2, qj4, qj7, qj8, qj9, qj10, qj30, qj100, qj1000, qj1000000, qj1000000000, qj1442695040888963407, qj6364136223846793005, q_s1, q_s2, q_s3, q_s4, q_s5, iI_add, iI_sub, iI_mul, iI_neg, q_lt, q_le, q_eq, jI_add, jI_sub, jI_mul, jI_neg, jI_of, jI_to, j_le0, j_ge0, j_lt0, j_gt0, j_eq0, q_dvl, qz0, qz1, qz2, qz3, if_pos, if_neg, reduceIte, e', e2, e3]
theorem m_lko_l (W : ma_W s T V) (D : ma_M s T V M) (h0 : 0 < T 3 0) {x : Int} (hx : 1 ≤ x ∧ x ≤ 9) : ∃ M1, l_X12_whoBy_4 (iI x) gs_FU (iI (ma_am (ma_hd s T V x) 1 : Nat)) (iI 1) M = some (iI (ma_am (ma_hd s T V x) (T 3 0).toNat : Nat), iI ((T 3 0).toNat : Nat), M1) ∧ iv_ag M M1 := by
  have f1 := W.2.1.1
  obtain ⟨r, e, hr⟩ := ma_up1 (fun f i (q9 : Int32 × gs_M) => l_X12_whoBy_4 (iI x) f q9.1 i q9.2) ((T 3 0).toNat)
    (fun i q9 => q9.1 = iI (ma_am (ma_hd s T V x) i : Nat) ∧ iv_ag M q9.2)
    (fun r => ∃ M1, r = (iI (ma_am (ma_hd s T V x) (T 3 0).toNat : Nat), iI ((T 3 0).toNat : Nat), M1) ∧ iv_ag M M1) (iI (ma_am (ma_hd s T V x) 1 : Nat), M) (by omega) (by omega)
    ⟨rfl, iv_ag.rf⟩
    (by
      rintro f i ⟨a0, N⟩ hi ⟨ha, hM⟩
      left
      simp only at ha hM
      subst ha
      have CN := D.ag W.2.1 hM
      have e0 := CN.fo
      have b3 : ma_am (ma_hd s T V x) i ≤ i - 1 := ma_am_b _ i
      obtain ⟨N1, e1, g1⟩ := m_held W CN hx (p := i) (by omega)
      obtain ⟨N2, e2, g2⟩ := m_held W (CN.ag W.2.1 g1) hx (p := ma_am (ma_hd s T V x) i) (by omega)
      have gM := g1.tr g2
      have b1 := ma_hd_b W.2.1 s V x i
      have b2 := ma_hd_b W.2.1 s V x (ma_am (ma_hd s T V x) i)
      rcases (by omega : ma_hd s T V x i ≤ ma_hd s T V x (ma_am (ma_hd s T V x) i) ∨ ma_hd s T V x (ma_am (ma_hd s T V x) i) < ma_hd s T V x i) with c | c
      · have z := ma_am_s (ma_hd s T V x) i
        rw [if_pos c] at z
        refine ⟨(iI (ma_am (ma_hd s T V x) (i + 1) : Nat), N2), ?_, rfl, hM.tr gM⟩
        simp only [l_X12_whoBy_4]
        simp (disch := omega) only [qn0, qn1, qn2, qn3, qn4, qn5, qn6, qn7, qn8, qn9, qn10, qn11, qn12, qn13, qn14, qn15, qn16, qn17, qn18, qn24, qn30, qn31, qn32, qn33, qn36, qn38, qn40, qn41, qn42, qn43, qn45, qn47, qn48, qn49, qn50, qn51, qn52, qn53, qn57, qn58, qn59, qn60, qn61, qn62, qn63, qn91, qn93, qn97, qn99, qn100, qn103, qn104, qn112, qn113, qn115, qn116, qn118, qn119, qn121, qn124, qn173, qn177, qn240, qn255, qn295, qn352, qn353, qn533, qn999, qn1000, qn1023, qn6561, qn10000, qn20787, qn1000000, qn252645135, qn858993459, qn1000000000, qn1431655765, qj0, qj1, qj2, qj4, qj7, qj8, qj9, qj10, qj30, qj100, qj1000, qj1000000, qj1000000000, qj1442695040888963407, qj6364136223846793005, q_s1, q_s2, q_s3, q_s4, q_s5, iI_add, iI_sub, iI_mul, iI_neg, q_lt, q_le, q_eq, jI_add, jI_sub, jI_mul, jI_neg, jI_of, jI_to, j_le0, j_ge0, j_lt0, j_gt0, j_eq0, q_dvl, qz0, qz1, qz2, qz3, if_pos, if_neg, reduceIte, e0, e1, e2, z]
      · have z := ma_am_s (ma_hd s T V x) i
        rw [if_neg (by omega)] at z
        refine ⟨(iI (ma_am (ma_hd s T V x) (i + 1) : Nat), N2), ?_, rfl, hM.tr gM⟩
        simp only [l_X12_whoBy_4]
        simp (disch := omega) only [qn0, qn1, qn2, qn3, qn4, qn5, qn6, qn7, qn8, qn9, qn10, qn11, qn12, qn13, qn14, qn15, qn16, qn17, qn18, qn24, qn30, qn31, qn32, qn33, qn36, qn38, qn40, qn41, qn42, qn43, qn45, qn47, qn48, qn49, qn50, qn51, qn52, qn53, qn57, qn58, qn59, qn60, qn61, qn62, qn63, qn91, qn93, qn97, qn99, qn100, qn103, qn104, qn112, qn113, qn115, qn116, qn118, qn119, qn121, qn124, qn173, qn177, qn240, qn255, qn295, qn352, qn353, qn533, qn999, qn1000, qn1023, qn6561, qn10000, qn20787, qn1000000, qn252645135, qn858993459, qn1000000000, qn1431655765, qj0, qj1, qj2, qj4, qj7, qj8, qj9, qj10, qj30, qj100, qj1000, qj1000000, qj1000000000, qj1442695040888963407, qj6364136223846793005, q_s1, q_s2, q_s3, q_s4, q_s5, iI_add, iI_sub, iI_mul, iI_neg, q_lt, q_le, q_eq, jI_add, jI_sub, jI_mul, jI_neg, jI_of, jI_to, j_le0, j_ge0, j_lt0, j_gt0, j_eq0, q_dvl, qz0, qz1, qz2, qz3, if_pos, if_neg, reduceIte, e0, e1, e2, z])
    (by
      rintro f ⟨a0, N⟩ ⟨ha, hM⟩
      simp only at ha hM
      subst ha
      have CN := D.ag W.2.1 hM
      refine ⟨(iI (ma_am (ma_hd s T V x) (T 3 0).toNat : Nat), iI ((T 3 0).toNat : Nat), N), ?_, N, rfl, hM⟩
      simp only [l_X12_whoBy_4]
      simp (disch := omega) only [qn0, qn1, qn2, qn3, qn4, qn5, qn6, qn7, qn8, qn9, qn10, qn11, qn12, qn13, qn14, qn15, qn16, qn17, qn18, qn24, qn30, qn31, qn32, qn33, qn36, qn38, qn40, qn41, qn42, qn43, qn45, qn47, qn48, qn49, qn50, qn51, qn52, qn53, qn57, qn58, qn59, qn60, qn61, qn62, qn63, qn91, qn93, qn97, qn99, qn100, qn103, qn104, qn112, qn113, qn115, qn116, qn118, qn119, qn121, qn124, qn173, qn177, qn240, qn255, qn295, qn352, qn353, qn533, qn999, qn1000, qn1023, qn6561, qn10000, qn20787, qn1000000, qn252645135, qn858993459, qn1000000000, qn1431655765, q_s1, q_s2, q_s3, q_s4, q_s5, iI_add, iI_sub, iI_mul, iI_neg, q_lt, q_le, q_eq, qz0, qz1, qz2, qz3, if_pos, if_neg, reduceIte, CN.fo])
  obtain ⟨M1, rfl, g⟩ := hr
  exact ⟨M1, e, g⟩
theorem m_all_l (W : ma_W s T V) (D : ma_M s T V M) {x : Int} (hx : 1 ≤ x ∧ x ≤ 9) (x2 x3 : Int32) : ∃ M1, l_X12_who_67 (iI x) x2 x3 gs_FU (jI (ma_sm 0 (ma_hd s T V x))) (iI 0) M = some (jI (ma_sm (T 3 0).toNat (ma_hd s T V x)), iI ((T 3 0).toNat : Nat), M1) ∧ iv_ag M M1 := by
  have f1 := W.2.1.1
  obtain ⟨r, e, hr⟩ := ma_up0 (fun f i (q9 : Int64 × gs_M) => l_X12_who_67 (iI x) x2 x3 f q9.1 i q9.2) ((T 3 0).toNat)
    (fun i q9 => q9.1 = jI (ma_sm i (ma_hd s T V x)) ∧ iv_ag M q9.2)
    (fun r => ∃ M1, r = (jI (ma_sm (T 3 0).toNat (ma_hd s T V x)), iI ((T 3 0).toNat : Nat), M1) ∧ iv_ag M M1) (jI (ma_sm 0 (ma_hd s T V x)), M) (by omega)
    ⟨rfl, iv_ag.rf⟩
    (by
      rintro f i ⟨a0, N⟩ hi ⟨ha, hM⟩
      left
      simp only at ha hM
      subst ha
      have CN := D.ag W.2.1 hM
      obtain ⟨N1, e1, gM⟩ := m_held W CN hx (p := i) (by omega)
      refine ⟨(jI (ma_sm (i + 1) (ma_hd s T V x)), N1), ?_, rfl, hM.tr gM⟩
      simp only [l_X12_who_67]
      simp (disch := omega) only [qn0, qn1, qn2, qn3, qn4, qn5, qn6, qn7, qn8, qn9, qn10, qn11, qn12, qn13, qn14, qn15, qn16, qn17, qn18, qn24, qn30, qn31, qn32, qn33, qn36, qn38, qn40, qn41, qn42, qn43, qn45, qn47, qn48, qn49, qn50, qn51, qn52, qn53, qn57, qn58, qn59, qn60, qn61, qn62, qn63, qn91, qn93, qn97, qn99, qn100, qn103, qn104, qn112, qn113, qn115, qn116, qn118, qn119, qn121, qn124, qn173, qn177, qn240, qn255, qn295, qn352, qn353, qn533, qn999, qn1000, qn1023, qn6561, qn10000, qn20787, qn1000000, qn252645135, qn858993459, qn1000000000, qn1431655765, qj0, qj1, qj2, qj4, qj7, qj8, qj9, qj10, qj30, qj100, qj1000, qj1000000, qj1000000000, qj1442695040888963407, qj6364136223846793005, q_s1, q_s2, q_s3, q_s4, q_s5, iI_add, iI_sub, iI_mul, iI_neg, q_lt, q_le, q_eq, jI_add, jI_sub, jI_mul, jI_neg, jI_of, jI_to, j_le0, j_ge0, j_lt0, j_gt0, j_eq0, q_dvl, qz0, qz1, qz2, qz3, if_pos, if_neg, reduceIte, CN.fo, e1, ma_sm])
    (by
      rintro f ⟨a0, N⟩ ⟨ha, hM⟩
      simp only at ha hM
      subst ha
      have CN := D.ag W.2.1 hM
      refine ⟨(jI (ma_sm (T 3 0).toNat (ma_hd s T V x)), iI ((T 3 0).toNat : Nat), N), ?_, N, rfl, hM⟩
      simp only [l_X12_who_67]
      simp (disch := omega) only [qn0, qn1, qn2, qn3, qn4, qn5, qn6, qn7, qn8, qn9, qn10, qn11, qn12, qn13, qn14, qn15, qn16, qn17, qn18, qn24, qn30, qn31, qn32, qn33, qn36, qn38, qn40, qn41, qn42, qn43, qn45, qn47, qn48, qn49, qn50, qn51, qn52, qn53, qn57, qn58, qn59, qn60, qn61, qn62, qn63, qn91, qn93, qn97, qn99, qn100, qn103, qn104, qn112, qn113, qn115, qn116, qn118, qn119, qn121, qn124, qn173, qn177, qn240, qn255, qn295, qn352, qn353, qn533, qn999, qn1000, qn1023, qn6561, qn10000, qn20787, qn1000000, qn252645135, qn858993459, qn1000000000, qn1431655765, q_s1, q_s2, q_s3, q_s4, q_s5, iI_add, iI_sub, iI_mul, iI_neg, q_lt, q_le, q_eq, qz0, qz1, qz2, qz3, if_pos, if_neg, reduceIte, CN.fo])
  obtain ⟨M1, rfl, g⟩ := hr
  exact ⟨M1, e, g⟩
/-- suspects -/
def ma_it (s : Nat → Int) (T : Nat → Nat → Int) (V : ma_V) (x : Int) (p : Nat) : Int := if 0 < ma_hd s T V x p then 1 else 0
def ma_sp (s : Nat → Int) (T : Nat → Nat → Int) (V : ma_V) (x : Int) : Int := ma_sm (T 3 0).toNat (ma_it s T V x)
def ma_w0 (s : Nat → Int) (T : Nat → Nat → Int) (V : ma_V) (g : Int) (p h : Nat) : Int := ma_wk s T V p h g (s (6 * p + 1))
def ma_wf (s : Nat → Int) (T : Nat → Nat → Int) (V : ma_V) (x : Int) (p h : Nat) : Int := (if ma_w0 s T V 0 p h < 5 then 0 else ma_sp s T V x - ma_it s T V x p) + (if ma_w0 s T V x p h < 5 then 0 else ma_it s T V x p)
def ma_ab (z : Int) : Int := if 0 ≤ z then z else 0 - z
def ma_pa (s : Nat → Int) (T : Nat → Nat → Int) (V : ma_V) (x : Int) (p h : Nat) : Int := ma_ab (ma_sp s T V x - 2 * ma_wf s T V x p h)
theorem ma_it_b (s : Nat → Int) (T : Nat → Nat → Int) (V : ma_V) (x : Int) (p : Nat) : 0 ≤ ma_it s T V x p ∧ ma_it s T V x p ≤ 1 := by
  unfold ma_it
  split <;> omega
theorem ma_it_le (s : Nat → Int) (T : Nat → Nat → Int) (V : ma_V) (x : Int) {p n : Nat} (hp : p < n) : ma_it s T V x p ≤ ma_sm n (ma_it s T V x) := by
  induction n with
  | zero => omega
  | succ n ih =>
    have b := ma_it_b s T V x n
    simp only [ma_sm]
    rcases (by omega : p = n ∨ p < n) with c | c
    · have h := (ma_sm_b (n := n) (f := ma_it s T V x) (a := 0) (b := 1) (fun i _ => ma_it_b s T V x i)).1
      subst c
      omega
    · have := ih c
      omega
theorem ma_sp_b (w : ma_wT T) (s : Nat → Int) (V : ma_V) (x : Int) : 0 ≤ ma_sp s T V x ∧ ma_sp s T V x ≤ 8 := by
  have f1 := w.1
  have h := ma_sm_b (n := (T 3 0).toNat) (f := ma_it s T V x) (a := 0) (b := 1) (fun i _ => ma_it_b s T V x i)
  unfold ma_sp
  omega
theorem ma_wf_b (w : ma_wT T) (s : Nat → Int) (V : ma_V) (x : Int) {p : Nat} (hp : (p : Int) < T 3 0) (h : Nat) : 0 ≤ ma_wf s T V x p h ∧ ma_wf s T V x p h ≤ ma_sp s T V x := by
  have b1 := ma_it_b s T V x p
  have b2 : ma_it s T V x p ≤ ma_sp s T V x := ma_it_le s T V x (n := (T 3 0).toNat) (by omega)
  unfold ma_wf
  split <;> split <;> omega
theorem ma_pa_b (w : ma_wT T) (s : Nat → Int) (V : ma_V) (x : Int) {p : Nat} (hp : (p : Int) < T 3 0) (h : Nat) : 0 ≤ ma_pa s T V x p h ∧ ma_pa s T V x p h ≤ 8 := by
  have b1 := ma_sp_b w s V x
  have b2 := ma_wf_b w s V x hp h
  unfold ma_pa ma_ab
  split <;> omega
def ma_a1 (s : Nat → Int) (T : Nat → Nat → Int) (V : ma_V) (x : Int) (p : Nat) : Nat → Int × Int → Int × Int
  | 0, q => q
  | h + 1, q => if (ma_a1 s T V x p h q).2 ≤ ma_pa s T V x p h then ma_a1 s T V x p h q else (10 * p + h, ma_pa s T V x p h)
def ma_a2 (s : Nat → Int) (T : Nat → Nat → Int) (V : ma_V) (x : Int) (H : Nat) : Nat → Int × Int
  | 0 => (-1, 9)
  | p + 1 => ma_a1 s T V x p H (ma_a2 s T V x H p)
/-- the state of the search -/
def ma_as (q : Int × Int) : Prop := (q.1 = -1 ∧ q.2 = 9) ∨ (0 ≤ q.1 ∧ q.1 ≤ 1000 ∧ 0 ≤ q.2 ∧ q.2 ≤ 8)
theorem ma_a1_s (w : ma_wT T) {x : Int} {p : Nat} (hp : (p : Int) < T 3 0) {q : Int × Int} (hq : ma_as q) {h : Nat} (hh : h ≤ 9) : ma_as (ma_a1 s T V x p h q) := by
  have f1 := w.1
  induction h with
  | zero => exact hq
  | succ h ih =>
    have b := ma_pa_b w s V x hp h
    simp only [ma_a1]
    split
    · exact ih (by omega)
    · right
      simp only
      omega
theorem ma_a2_s (w : ma_wT T) {x : Int} {p : Nat} (hp : (p : Int) ≤ T 3 0) {H : Nat} (hH : H ≤ 9) : ma_as (ma_a2 s T V x H p) := by
  induction p with
  | zero => exact Or.inl ⟨rfl, rfl⟩
  | succ p ih => exact ma_a1_s w (by omega) (ih (by omega)) hH
theorem q_ab {z : Int} (h : -1000 ≤ z ∧ z ≤ 1000) : (if 0 ≤ z then iI z else iI (0 - z)) = iI (ma_ab z) := by
  unfold ma_ab
  by_cases c : 0 ≤ z
  · rw [if_pos c, if_pos c]
  · rw [if_neg c, if_neg c]
theorem c_wfb (W : ma_W s T V) (C : ma_C s T V M) {x : Int} (hx : 1 ≤ x ∧ x ≤ 9) {L : gs_L} (hL : ∀ p : Nat, (p : Int) < T 3 0 → L 138 p = jI (ma_hd s T V x p)) {p h : Nat} (hp : (p : Int) < T 3 0) (hh : (h : Int) < T 1 0) : ∃ M1, f_X1_wakefulBy M L (iI x) (iI p) (iI h) (iI (ma_sp s T V x)) = some (iI (ma_wf s T V x p h), M1) ∧ iv_ag M M1 := by
  have w := W.2.1
  have f1 := W.2.1.1
  obtain ⟨N1, e1, g1⟩ := c_with W C hp hh (g := 0) (by omega)
  obtain ⟨N2, e2, g2⟩ := c_with W (C.ag w g1) hp hh (g := x) (by omega)
  have e3 : gs_rdl L 138 8 (iI p) = some (jI (ma_hd s T V x p)) := by rw [q_rdln p rfl (by omega) (by decide), hL p hp]
  have b1 := ma_hd_b w s V x p
  have b2 : 0 ≤ ma_w0 s T V 0 p h ∧ ma_w0 s T V 0 p h ≤ 10 := ma_wk_b _ _ _ _ _ _ _
  have b3 : 0 ≤ ma_w0 s T V x p h ∧ ma_w0 s T V x p h ≤ 10 := ma_wk_b _ _ _ _ _ _ _
  rw [show ma_wk s T V p h 0 (s (6 * p + 1)) = ma_w0 s T V 0 p h from rfl] at e1
  rw [show ma_wk s T V p h x (s (6 * p + 1)) = ma_w0 s T V x p h from rfl] at e2
  refine ⟨N2, ?_, g1.tr g2⟩
  unfold f_X1_wakefulBy ma_wf ma_it
  rcases (by omega : ma_hd s T V x p ≤ 0 ∨ 0 < ma_hd s T V x p) with c | c <;> rcases (by omega : ma_w0 s T V 0 p h < 5 ∨ 5 ≤ ma_w0 s T V 0 p h) with c2 | c2 <;> rcases (by omega : ma_w0 s T V x p h < 5 ∨ 5 ≤ ma_w0 s T V x p h) with c3 | c3 <;> simp (disch := omega) only [qn0, qn1, qn2, qn3, qn4, qn5, qn6, qn7, qn8, qn9, qn10, qn11, qn12, qn13, qn14, qn15, qn16, qn17, qn18, qn24, qn30, qn31, qn32, qn33, qn36, qn38, qn40, qn41, qn42, qn43, qn45, qn47, qn48, qn49, qn50, qn51, qn52, qn53, qn57, qn58, qn59, qn60, qn61, qn62, qn63, qn91, qn93, qn97, qn99, qn100, qn103, qn104, qn112, qn113, qn115, qn116, qn118, qn119, qn121, qn124, qn173, qn177, qn240, qn255, qn295, qn352, qn353, qn533, qn999, qn1000, qn1023, qn6561, qn10000, qn20787, qn1000000, qn252645135, qn858993459, qn1000000000, qn1431655765, qj0, qj1, qj2, qj4, qj7, qj8, qj9, qj10, qj30, qj100, qj1000, qj1000000, qj1000000000, qj1442695040888963407, qj6364136223846793005, q_s1, q_s2, q_s3, q_s4, q_s5, iI_add, iI_sub, iI_mul, iI_neg, q_lt, q_le, q_eq, jI_add, jI_sub, jI_mul, jI_neg, jI_of, jI_to, j_le0, j_ge0, j_lt0, j_gt0, j_eq0, q_dvl, qz0, qz1, qz2, qz3, if_pos, if_neg, reduceIte, e1, e2, e3, Int.add_zero, Int.zero_add]
theorem c_a1 (W : ma_W s T V) (C : ma_C s T V M) {x : Int} (hx : 1 ≤ x ∧ x ≤ 9) {L : gs_L} (hL : ∀ p : Nat, (p : Int) < T 3 0 → L 138 p = jI (ma_hd s T V x p)) {p : Nat} (hp : (p : Int) < T 3 0) {q : Int × Int} (hq : ma_as q) : ∃ M1, l_X1_nextLook_68 L (iI x) (iI (ma_sp s T V x)) (iI p) gs_FU (iI q.1) (iI q.2) (iI 0) M = some (iI (ma_a1 s T V x p (T 1 0).toNat q).1, iI (ma_a1 s T V x p (T 1 0).toNat q).2, iI ((T 1 0).toNat : Nat), M1) ∧ iv_ag M M1 := by
  have w := W.2.1
  have f1 := W.2.1.1
  have f2 := W.2.1.2.1
  obtain ⟨r, e, M1, rfl, g⟩ := ma_up0 (fun f i (k : Int32 × Int32 × gs_M) => l_X1_nextLook_68 L (iI x) (iI (ma_sp s T V x)) (iI p) f k.1 k.2.1 i k.2.2) (T 1 0).toNat
    (fun i k => k.1 = iI (ma_a1 s T V x p i q).1 ∧ k.2.1 = iI (ma_a1 s T V x p i q).2 ∧ iv_ag M k.2.2)
    (fun r => ∃ M1, r = (iI (ma_a1 s T V x p (T 1 0).toNat q).1, iI (ma_a1 s T V x p (T 1 0).toNat q).2, iI ((T 1 0).toNat : Nat), M1) ∧ iv_ag M M1) (iI q.1, iI q.2, M) (by omega) ⟨rfl, rfl, iv_ag.rf⟩
    (by
      rintro f i ⟨k1, k2, N⟩ hi ⟨h1, h2, hM⟩
      simp only at h1 h2 hM
      subst h1 h2
      left
      have CN := C.ag w hM
      obtain ⟨N1, e1, g1⟩ := c_wfb W CN hx hL (p := p) (h := i) hp (by omega)
      have hs := ma_a1_s (s := s) (V := V) w (x := x) hp hq (h := i) (by omega)
      have bw := ma_wf_b w s V x hp i
      have bs := ma_sp_b w s V x
      have bp := ma_pa_b w s V x hp i
      have e2 : (if 0 ≤ ma_sp s T V x - 2 * ma_wf s T V x p i then iI (ma_sp s T V x - 2 * ma_wf s T V x p i) else iI (0 - (ma_sp s T V x - 2 * ma_wf s T V x p i))) = iI (ma_pa s T V x p i) := q_ab (by omega)
      have hz : ma_a1 s T V x p (i + 1) q = if (ma_a1 s T V x p i q).2 ≤ ma_pa s T V x p i then ma_a1 s T V x p i q else (10 * (p : Int) + i, ma_pa s T V x p i) := rfl
      refine ⟨(iI (ma_a1 s T V x p (i + 1) q).1, iI (ma_a1 s T V x p (i + 1) q).2, N1), ?_, rfl, rfl, hM.tr g1⟩
      have hq2 : 0 ≤ (ma_a1 s T V x p i q).2 ∧ (ma_a1 s T V x p i q).2 ≤ 9 := by
        rcases hs with c | c <;> omega
      simp only [l_X1_nextLook_68]
      rw [hz]
      rcases (by omega : (ma_a1 s T V x p i q).2 ≤ ma_pa s T V x p i ∨ ma_pa s T V x p i < (ma_a1 s T V x p i q).2) with c | c <;> simp (disch := omega) only [qn0, qn1, qn2, qn3, qn4, qn5, qn6, qn7, qn8, qn9, qn10, qn11, qn12, qn13, qn14, qn15, qn16, qn17, qn18, qn24, qn30, qn31, qn32, qn33, qn36, qn38, qn40, qn41, qn42, qn43, qn45, qn47, qn48, qn49, qn50, qn51, qn52, qn53, qn57, qn58, qn59, qn60, qn61, qn62, qn63, qn91, qn93, qn97, qn99, qn100, qn103, qn104, qn112, qn113, qn115, qn116, qn118, qn119, qn121, qn124, qn173, qn177, qn240, qn255, qn295, qn352, qn353, qn533, qn999, qn1000, qn1023, qn6561, qn10000, qn20787, qn1000000, qn252645135, qn858993459, qn1000000000, qn1431655765, q_s1, q_s2, q_s3, q_s4, q_s5, iI_add, iI_sub, iI_mul, iI_neg, q_lt, q_le, q_eq, qz0, qz1, qz2, qz3, if_pos, if_neg, reduceIte, c_hours CN, e1, e2])
    (by
      rintro f ⟨k1, k2, N⟩ ⟨h1, h2, hM⟩
      simp only at h1 h2 hM
      subst h1 h2
      have CN := C.ag w hM
      refine ⟨_, ?_, N, rfl, hM⟩
      simp only [l_X1_nextLook_68]
      simp (disch := omega) only [qn0, qn1, qn2, qn3, qn4, qn5, qn6, qn7, qn8, qn9, qn10, qn11, qn12, qn13, qn14, qn15, qn16, qn17, qn18, qn24, qn30, qn31, qn32, qn33, qn36, qn38, qn40, qn41, qn42, qn43, qn45, qn47, qn48, qn49, qn50, qn51, qn52, qn53, qn57, qn58, qn59, qn60, qn61, qn62, qn63, qn91, qn93, qn97, qn99, qn100, qn103, qn104, qn112, qn113, qn115, qn116, qn118, qn119, qn121, qn124, qn173, qn177, qn240, qn255, qn295, qn352, qn353, qn533, qn999, qn1000, qn1023, qn6561, qn10000, qn20787, qn1000000, qn252645135, qn858993459, qn1000000000, qn1431655765, q_s1, q_s2, q_s3, q_s4, q_s5, iI_add, iI_sub, iI_mul, iI_neg, q_lt, q_le, q_eq, qz0, qz1, qz2, qz3, if_pos, if_neg, reduceIte, c_hours CN])
  exact ⟨M1, e, g⟩
def ma_ask (s : Nat → Int) (T : Nat → Nat → Int) (V : ma_V) (x : Int) : Int := if 0 < ma_sp s T V x then (ma_a2 s T V x (T 1 0).toNat (T 3 0).toNat).1 else -1
theorem c_ask (W : ma_W s T V) (C : ma_C s T V M) (h0 : 0 < T 3 0) {x : Int} (hx : 1 ≤ x ∧ x ≤ 9) {L : gs_L} (hL : ∀ p : Nat, (p : Int) < T 3 0 → L 138 p = jI (ma_hd s T V x p)) : ∃ M1, f_X1_nextLook M L (iI x) = some (iI (ma_ask s T V x), M1) ∧ iv_ag M M1 := by
  have w := W.2.1
  have f1 := W.2.1.1
  have f2 := W.2.1.2.1
  have e0 := c_crowd C
  have bs := ma_sp_b w s V x
  obtain ⟨r, e, hr⟩ := ma_up0 (fun f i (q : Int32) => l_X1_nextLook_4 M L (iI x) f q i) (T 3 0).toNat
    (fun i q => q = iI (ma_sm i (ma_it s T V x))) (fun r => r = (iI (ma_sp s T V x), iI ((T 3 0).toNat : Nat))) (iI 0) (by omega) rfl
    (by
      rintro f i q hi rfl
      left
      have b1 := ma_hd_b w s V x i
      have e1 : gs_rdl L 138 8 (iI i) = some (jI (ma_hd s T V x i)) := by rw [q_rdln i rfl (by omega) (by decide), hL i (by omega)]
      refine ⟨_, ?_, rfl⟩
      simp only [l_X1_nextLook_4, ma_sm, ma_it]
      rcases (by omega : ma_hd s T V x i ≤ 0 ∨ 0 < ma_hd s T V x i) with c | c <;> simp (disch := omega) only [qn0, qn1, qn2, qn3, qn4, qn5, qn6, qn7, qn8, qn9, qn10, qn11, qn12, qn13, qn14, qn15, qn16, qn17, qn18, qn24, qn30, qn31, qn32, qn33, qn36, qn38, qn40, qn41, qn42, qn43, qn45, qn47, qn48, qn49, qn50, qn51, qn52, qn53, qn57, qn58, qn59, qn60, qn61, qn62, qn63, qn91, qn93, qn97, qn99, qn100, qn103, qn104, qn112, qn113, qn115, qn116, qn118, qn119, qn121, qn124, qn173, qn177, qn240, qn255, qn295, qn352, qn353, qn533, qn999, qn1000, qn1023, qn6561, qn10000, qn20787, qn1000000, qn252645135, qn858993459, qn1000000000, qn1431655765, qj0, qj1, qj2, qj4, qj7, qj8, qj9, qj10, qj30, qj100, qj1000, qj1000000, qj1000000000, qj1442695040888963407, qj6364136223846793005, q_s1, q_s2, q_s3, q_s4, q_s5, iI_add, iI_sub, iI_mul, iI_neg, q_lt, q_le, q_eq, jI_add, jI_sub, jI_mul, jI_neg, jI_of, jI_to, j_le0, j_ge0, j_lt0, j_gt0, j_eq0, q_dvl, qz0, qz1, qz2, qz3, if_pos, if_neg, reduceIte, e0, e1])
    (by
      rintro f q rfl
      refine ⟨_, ?_, rfl⟩
      simp only [l_X1_nextLook_4]
      simp (disch := omega) only [qn0, qn1, qn2, qn3, qn4, qn5, qn6, qn7, qn8, qn9, qn10, qn11, qn12, qn13, qn14, qn15, qn16, qn17, qn18, qn24, qn30, qn31, qn32, qn33, qn36, qn38, qn40, qn41, qn42, qn43, qn45, qn47, qn48, qn49, qn50, qn51, qn52, qn53, qn57, qn58, qn59, qn60, qn61, qn62, qn63, qn91, qn93, qn97, qn99, qn100, qn103, qn104, qn112, qn113, qn115, qn116, qn118, qn119, qn121, qn124, qn173, qn177, qn240, qn255, qn295, qn352, qn353, qn533, qn999, qn1000, qn1023, qn6561, qn10000, qn20787, qn1000000, qn252645135, qn858993459, qn1000000000, qn1431655765, qj0, qj1, qj2, qj4, qj7, qj8, qj9, qj10, qj30, qj100, qj1000, qj1000000, qj1000000000, qj1442695040888963407, qj6364136223846793005, q_s1, q_s2, q_s3, q_s4, q_s5, iI_add, iI_sub, iI_mul, iI_neg, q_lt, q_le, q_eq, jI_add, jI_sub, jI_mul, jI_neg, jI_of, jI_to, j_le0, j_ge0, j_lt0, j_gt0, j_eq0, q_dvl, qz0, qz1, qz2, qz3, if_pos, if_neg, reduceIte, e0]
      rfl)
  subst hr
  have e1 : l_X1_nextLook_4 M L (iI x) gs_FU (iI 0) (iI 0) = some (iI (ma_sp s T V x), iI ((T 3 0).toNat : Nat)) := e
  by_cases c : 0 < ma_sp s T V x
  · obtain ⟨r, e2, M1, rfl, g⟩ := ma_up0 (fun f i (k : Int32 × Int32 × gs_M) => l_X1_nextLook_49 L (iI x) (iI (ma_sp s T V x)) f k.1 k.2.1 i k.2.2) (T 3 0).toNat
      (fun i k => k.1 = iI (ma_a2 s T V x (T 1 0).toNat i).1 ∧ k.2.1 = iI (ma_a2 s T V x (T 1 0).toNat i).2 ∧ iv_ag M k.2.2)
      (fun r => ∃ M1, r = (iI (ma_a2 s T V x (T 1 0).toNat (T 3 0).toNat).1, iI (ma_a2 s T V x (T 1 0).toNat (T 3 0).toNat).2, iI ((T 3 0).toNat : Nat), M1) ∧ iv_ag M M1) (iI (-1), iI 9, M) (by omega) ⟨rfl, rfl, iv_ag.rf⟩
      (by
        rintro f i ⟨k1, k2, N⟩ hi ⟨h1, h2, hM⟩
        simp only at h1 h2 hM
        subst h1 h2
        left
        have CN := C.ag w hM
        obtain ⟨N1, e3, g1⟩ := c_a1 W CN hx hL (p := i) (by omega) (ma_a2_s (s := s) (V := V) w (x := x) (p := i) (by omega) (H := (T 1 0).toNat) (by omega))
        refine ⟨(iI (ma_a2 s T V x (T 1 0).toNat (i + 1)).1, iI (ma_a2 s T V x (T 1 0).toNat (i + 1)).2, N1), ?_, rfl, rfl, hM.tr g1⟩
        simp only [l_X1_nextLook_49]
        simp (disch := omega) only [qn0, qn1, qn2, qn3, qn4, qn5, qn6, qn7, qn8, qn9, qn10, qn11, qn12, qn13, qn14, qn15, qn16, qn17, qn18, qn24, qn30, qn31, qn32, qn33, qn36, qn38, qn40, qn41, qn42, qn43, qn45, qn47, qn48, qn49, qn50, qn51, qn52, qn53, qn57, qn58, qn59, qn60, qn61, qn62, qn63, qn91, qn93, qn97, qn99, qn100, qn103, qn104, qn112, qn113, qn115, qn116, qn118, qn119, qn121, qn124, qn173, qn177, qn240, qn255, qn295, qn352, qn353, qn533, qn999, qn1000, qn1023, qn6561, qn10000, qn20787, qn1000000, qn252645135, qn858993459, qn1000000000, qn1431655765, q_s1, q_s2, q_s3, q_s4, q_s5, iI_add, iI_sub, iI_mul, iI_neg, q_lt, q_le, q_eq, qz0, qz1, qz2, qz3, if_pos, if_neg, reduceIte, c_crowd CN, e3]
        rfl)
      (by
        rintro f ⟨k1, k2, N⟩ ⟨h1, h2, hM⟩
        simp only at h1 h2 hM
        subst h1 h2
        have CN := C.ag w hM
        refine ⟨_, ?_, N, rfl, hM⟩
        simp only [l_X1_nextLook_49]
        simp (disch := omega) only [qn0, qn1, qn2, qn3, qn4, qn5, qn6, qn7, qn8, qn9, qn10, qn11, qn12, qn13, qn14, qn15, qn16, qn17, qn18, qn24, qn30, qn31, qn32, qn33, qn36, qn38, qn40, qn41, qn42, qn43, qn45, qn47, qn48, qn49, qn50, qn51, qn52, qn53, qn57, qn58, qn59, qn60, qn61, qn62, qn63, qn91, qn93, qn97, qn99, qn100, qn103, qn104, qn112, qn113, qn115, qn116, qn118, qn119, qn121, qn124, qn173, qn177, qn240, qn255, qn295, qn352, qn353, qn533, qn999, qn1000, qn1023, qn6561, qn10000, qn20787, qn1000000, qn252645135, qn858993459, qn1000000000, qn1431655765, q_s1, q_s2, q_s3, q_s4, q_s5, iI_add, iI_sub, iI_mul, iI_neg, q_lt, q_le, q_eq, qz0, qz1, qz2, qz3, if_pos, if_neg, reduceIte, c_crowd CN])
    have e2' : l_X1_nextLook_49 L (iI x) (iI (ma_sp s T V x)) gs_FU (iI (-1)) (iI 9) (iI 0) M = some (iI (ma_a2 s T V x (T 1 0).toNat (T 3 0).toNat).1, iI (ma_a2 s T V x (T 1 0).toNat (T 3 0).toNat).2, iI ((T 3 0).toNat : Nat), M1) := e2
    refine ⟨M1, ?_, g⟩
    unfold f_X1_nextLook ma_ask
    simp (disch := omega) only [qn0, qn1, qn2, qn3, qn4, qn5, qn6, qn7, qn8, qn9, qn10, qn11, qn12, qn13, qn14, qn15, qn16, qn17, qn18, qn24, qn30, qn31, qn32, qn33, qn36, qn38, qn40, qn41, qn42, qn43, qn45, qn47, qn48, qn49, qn50, qn51, qn52, qn53, qn57, qn58, qn59, qn60, qn61, qn62, qn63, qn91, qn93, qn97, qn99, qn100, qn103, qn104, qn112, qn113, qn115, qn116, qn118, qn119, qn121, qn124, qn173, qn177, qn240, qn255, qn295, qn352, qn353, qn533, qn999, qn1000, qn1023, qn6561, qn10000, qn20787, qn1000000, qn252645135, qn858993459, qn1000000000, qn1431655765, q_s1, q_s2, q_s3, q_s4, q_s5, iI_add, iI_sub, iI_mul, iI_neg, q_lt, q_le, q_eq, qz0, qz1, qz2, qz3, if_pos, if_neg, reduceIte, e1, e2']
  · have e2 : l_X1_nextLook_49 L (iI x) (iI (ma_sp s T V x)) gs_FU (iI (-1)) (iI 9) (iI 0) M = some (iI (-1), iI 9, iI 0, M) := by
      have key : ∀ f, l_X1_nextLook_49 L (iI x) (iI (ma_sp s T V x)) (f + 1) (iI (-1)) (iI 9) (iI 0) M = some (iI (-1), iI 9, iI 0, M) := fun f => by
        simp only [l_X1_nextLook_49]
        simp (disch := omega) only [qn0, qn1, qn2, qn3, qn4, qn5, qn6, qn7, qn8, qn9, qn10, qn11, qn12, qn13, qn14, qn15, qn16, qn17, qn18, qn24, qn30, qn31, qn32, qn33, qn36, qn38, qn40, qn41, qn42, qn43, qn45, qn47, qn48, qn49, qn50, qn51, qn52, qn53, qn57, qn58, qn59, qn60, qn61, qn62, qn63, qn91, qn93, qn97, qn99, qn100, qn103, qn104, qn112, qn113, qn115, qn116, qn118, qn119, qn121, qn124, qn173, qn177, qn240, qn255, qn295, qn352, qn353, qn533, qn999, qn1000, qn1023, qn6561, qn10000, qn20787, qn1000000, qn252645135, qn858993459, qn1000000000, qn1431655765, q_s1, q_s2, q_s3, q_s4, q_s5, iI_add, iI_sub, iI_mul, iI_neg, q_lt, q_le, q_eq, qz0, qz1, qz2, qz3, if_pos, if_neg, reduceIte, e0]
      exact key 29999
    refine ⟨M, ?_, iv_ag.rf⟩
    unfold f_X1_nextLook ma_ask
    simp (disch := omega) only [qn0, qn1, qn2, qn3, qn4, qn5, qn6, qn7, qn8, qn9, qn10, qn11, qn12, qn13, qn14, qn15, qn16, qn17, qn18, qn24, qn30, qn31, qn32, qn33, qn36, qn38, qn40, qn41, qn42, qn43, qn45, qn47, qn48, qn49, qn50, qn51, qn52, qn53, qn57, qn58, qn59, qn60, qn61, qn62, qn63, qn91, qn93, qn97, qn99, qn100, qn103, qn104, qn112, qn113, qn115, qn116, qn118, qn119, qn121, qn124, qn173, qn177, qn240, qn255, qn295, qn352, qn353, qn533, qn999, qn1000, qn1023, qn6561, qn10000, qn20787, qn1000000, qn252645135, qn858993459, qn1000000000, qn1431655765, q_s1, q_s2, q_s3, q_s4, q_s5, iI_add, iI_sub, iI_mul, iI_neg, q_lt, q_le, q_eq, qz0, qz1, qz2, qz3, if_pos, if_neg, reduceIte, e1, e2]
/-- the suspects as bits -/
def ma_mb (s : Nat → Int) (T : Nat → Nat → Int) (V : ma_V) (x : Int) : Nat → Nat
  | 0 => 0
  | i + 1 => ma_mb s T V x i ||| (if 0 < ma_hd s T V x i then 2 ^ i else 0)
theorem ma_mb_t (s : Nat → Int) (T : Nat → Nat → Int) (V : ma_V) (x : Int) (n c : Nat) : (ma_mb s T V x n).testBit c = decide (c < n ∧ 0 < ma_hd s T V x c) := by
  induction n with
  | zero => simp [ma_mb]
  | succ n ih =>
    simp only [ma_mb]
    rw [Nat.testBit_or, ih]
    by_cases d : 0 < ma_hd s T V x n
    · rw [if_pos d, Nat.testBit_two_pow]
      by_cases e : n = c
      · subst e
        simp [d]
      · by_cases e2 : c < n
        · simp [e, e2, show c < n + 1 by omega]
        · simp [e, e2, show ¬ c < n + 1 by omega]
    · rw [if_neg d]
      by_cases e : n = c
      · subst e
        simp [d]
      · by_cases e2 : c < n
        · simp [e2, show c < n + 1 by omega]
        · simp [e2, show ¬ c < n + 1 by omega]
theorem ma_mb_b (s : Nat → Int) (T : Nat → Nat → Int) (V : ma_V) (x : Int) {n : Nat} (hn : n ≤ 8) : ma_mb s T V x n < 256 := by
  induction n with
  | zero => simp [ma_mb]
  | succ n ih =>
    simp only [ma_mb]
    have h6 := Nat.pow_lt_pow_right (a := 2) (by decide) (show n < 8 by omega)
    refine Nat.or_lt_two_pow (n := 8) (ih (by omega)) ?_
    split
    · exact h6
    · decide
theorem ma_mb_0 (s : Nat → Int) (T : Nat → Nat → Int) (V : ma_V) (x : Int) (n : Nat) : ma_mb s T V x n = 0 ↔ ma_sm n (ma_it s T V x) = 0 := by
  constructor
  · intro h
    have hz : ∀ c, c < n → ¬ 0 < ma_hd s T V x c := fun c hc hd => by
      have := ma_mb_t s T V x n c
      rw [h] at this
      simp [hc, hd] at this
    rw [ma_sm_c (g := fun _ => 0) (fun i hi => by
      unfold ma_it
      rw [if_neg (hz i hi)])]
    clear hz h
    induction n with
    | zero => rfl
    | succ n ih => simp [ma_sm, ih]
  · intro h
    have hz : ∀ c, c < n → ¬ 0 < ma_hd s T V x c := fun c hc hd => by
      have h1 := ma_it_le s T V x hc
      unfold ma_it at h1
      rw [if_pos hd] at h1
      unfold ma_it at h
      omega
    apply Nat.eq_of_testBit_eq
    intro c
    rw [ma_mb_t]
    by_cases hc : c < n
    · simp [hz c hc]
    · simp [hc]
theorem m_mb (W : ma_W s T V) (D : ma_M s T V M) {x : Int} (hx : 1 ≤ x ∧ x ≤ 9) : ∃ M1, l_X12_askBy_4 (iI x) gs_FU (iI 0) (iI 0) M = some (iI (ma_mb s T V x (T 3 0).toNat : Nat), iI ((T 3 0).toNat : Nat), M1) ∧ iv_ag M M1 := by
  have w := W.2.1
  have f1 := W.2.1.1
  obtain ⟨r, e, M1, rfl, g⟩ := ma_up0 (fun f i (k : Int32 × gs_M) => l_X12_askBy_4 (iI x) f k.1 i k.2) (T 3 0).toNat
    (fun i k => k.1 = iI (ma_mb s T V x i : Nat) ∧ iv_ag M k.2)
    (fun r => ∃ M1, r = (iI (ma_mb s T V x (T 3 0).toNat : Nat), iI ((T 3 0).toNat : Nat), M1) ∧ iv_ag M M1) (iI 0, M) (by omega) ⟨rfl, iv_ag.rf⟩
    (by
      rintro f i ⟨k1, N⟩ hi ⟨h1, hM⟩
      simp only at h1 hM
      subst h1
      left
      have DN := D.ag w hM
      obtain ⟨N1, e1, g1⟩ := m_held W DN hx (p := i) (by omega)
      have b1 := ma_hd_b w s V x i
      refine ⟨(iI (ma_mb s T V x (i + 1) : Nat), N1), ?_, rfl, hM.tr g1⟩
      have z : iI 0 = iI ((0 : Nat) : Int) := rfl
      simp only [l_X12_askBy_4, ma_mb]
      rcases (by omega : ma_hd s T V x i ≤ 0 ∨ 0 < ma_hd s T V x i) with c | c
      · simp (disch := omega) only [qn0, qn1, qn2, qn3, qn4, qn5, qn6, qn7, qn8, qn9, qn10, qn11, qn12, qn13, qn14, qn15, qn16, qn17, qn18, qn24, qn30, qn31, qn32, qn33, qn36, qn38, qn40, qn41, qn42, qn43, qn45, qn47, qn48, qn49, qn50, qn51, qn52, qn53, qn57, qn58, qn59, qn60, qn61, qn62, qn63, qn91, qn93, qn97, qn99, qn100, qn103, qn104, qn112, qn113, qn115, qn116, qn118, qn119, qn121, qn124, qn173, qn177, qn240, qn255, qn295, qn352, qn353, qn533, qn999, qn1000, qn1023, qn6561, qn10000, qn20787, qn1000000, qn252645135, qn858993459, qn1000000000, qn1431655765, qj0, qj1, qj2, qj4, qj7, qj8, qj9, qj10, qj30, qj100, qj1000, qj1000000, qj1000000000, qj1442695040888963407, qj6364136223846793005, q_s1, q_s2, q_s3, q_s4, q_s5, iI_add, iI_sub, iI_mul, iI_neg, q_lt, q_le, q_eq, jI_add, jI_sub, jI_mul, jI_neg, jI_of, jI_to, j_le0, j_ge0, j_lt0, j_gt0, j_eq0, q_dvl, qz0, qz1, qz2, qz3, if_pos, if_neg, reduceIte, DN.fo, e1]
        rw [z, b_or]
      · simp (disch := omega) only [qn0, qn1, qn2, qn3, qn4, qn5, qn6, qn7, qn8, qn9, qn10, qn11, qn12, qn13, qn14, qn15, qn16, qn17, qn18, qn24, qn30, qn31, qn32, qn33, qn36, qn38, qn40, qn41, qn42, qn43, qn45, qn47, qn48, qn49, qn50, qn51, qn52, qn53, qn57, qn58, qn59, qn60, qn61, qn62, qn63, qn91, qn93, qn97, qn99, qn100, qn103, qn104, qn112, qn113, qn115, qn116, qn118, qn119, qn121, qn124, qn173, qn177, qn240, qn255, qn295, qn352, qn353, qn533, qn999, qn1000, qn1023, qn6561, qn10000, qn20787, qn1000000, qn252645135, qn858993459, qn1000000000, qn1431655765, qj0, qj1, qj2, qj4, qj7, qj8, qj9, qj10, qj30, qj100, qj1000, qj1000000, qj1000000000, qj1442695040888963407, qj6364136223846793005, q_s1, q_s2, q_s3, q_s4, q_s5, iI_add, iI_sub, iI_mul, iI_neg, q_lt, q_le, q_eq, jI_add, jI_sub, jI_mul, jI_neg, jI_of, jI_to, j_le0, j_ge0, j_lt0, j_gt0, j_eq0, q_dvl, qz0, qz1, qz2, qz3, if_pos, if_neg, reduceIte, DN.fo, e1, b_sh, b_or])
    (by
      rintro f ⟨k1, N⟩ ⟨h1, hM⟩
      simp only at h1 hM
      subst h1
      have DN := D.ag w hM
      refine ⟨_, ?_, N, rfl, hM⟩
      simp only [l_X12_askBy_4]
      simp (disch := omega) only [qn0, qn1, qn2, qn3, qn4, qn5, qn6, qn7, qn8, qn9, qn10, qn11, qn12, qn13, qn14, qn15, qn16, qn17, qn18, qn24, qn30, qn31, qn32, qn33, qn36, qn38, qn40, qn41, qn42, qn43, qn45, qn47, qn48, qn49, qn50, qn51, qn52, qn53, qn57, qn58, qn59, qn60, qn61, qn62, qn63, qn91, qn93, qn97, qn99, qn100, qn103, qn104, qn112, qn113, qn115, qn116, qn118, qn119, qn121, qn124, qn173, qn177, qn240, qn255, qn295, qn352, qn353, qn533, qn999, qn1000, qn1023, qn6561, qn10000, qn20787, qn1000000, qn252645135, qn858993459, qn1000000000, qn1431655765, qj0, qj1, qj2, qj4, qj7, qj8, qj9, qj10, qj30, qj100, qj1000, qj1000000, qj1000000000, qj1442695040888963407, qj6364136223846793005, q_s1, q_s2, q_s3, q_s4, q_s5, iI_add, iI_sub, iI_mul, iI_neg, q_lt, q_le, q_eq, jI_add, jI_sub, jI_mul, jI_neg, jI_of, jI_to, j_le0, j_ge0, j_lt0, j_gt0, j_eq0, q_dvl, qz0, qz1, qz2, qz3, if_pos, if_neg, reduceIte, DN.fo])
  exact ⟨M1, e, g⟩
/-- how far they lean -/
def ma_ln (s : Nat → Int) (T : Nat → Nat → Int) (V : ma_V) (x : Int) (p h c : Nat) : Int := if 0 < ma_hd s T V x c then (if ma_w0 s T V (if c = p then x else 0) p h < 5 then -1 else 1) else 0
theorem ma_ln_e (s : Nat → Int) (T : Nat → Nat → Int) (V : ma_V) (x : Int) (p h n : Nat) : ma_sm n (ma_ln s T V x p h) = (if ma_w0 s T V 0 p h < 5 then -1 else 1) * (ma_sm n (ma_it s T V x) - (if p < n then ma_it s T V x p else 0)) + (if ma_w0 s T V x p h < 5 then -1 else 1) * (if p < n then ma_it s T V x p else 0) := by
  induction n with
  | zero => simp [ma_sm]
  | succ n ih =>
    simp only [ma_sm]
    rw [ih]
    have e1 : ma_ln s T V x p h n = if 0 < ma_hd s T V x n then (if ma_w0 s T V (if n = p then x else 0) p h < 5 then -1 else 1) else 0 := rfl
    have e2 : ma_it s T V x n = if 0 < ma_hd s T V x n then 1 else 0 := rfl
    rw [e1]
    rcases (by omega : p < n ∨ p = n ∨ n < p) with c | c | c
    · rw [if_pos c, if_pos (show p < n + 1 by omega), if_neg (show ¬ n = p by omega), e2]
      split <;> split <;> split <;> omega
    · subst c
      rw [if_neg (show ¬ p < p by omega), if_pos (show p < p + 1 by omega), if_pos rfl, e2]
      split <;> split <;> split <;> omega
    · rw [if_neg (show ¬ p < n by omega), if_neg (show ¬ p < n + 1 by omega), if_neg (show ¬ n = p by omega), e2]
      split <;> split <;> split <;> omega
theorem ma_ln_p (w : ma_wT T) (x : Int) {p : Nat} (hp : (p : Int) < T 3 0) (h : Nat) : ma_ab (ma_sm (T 3 0).toNat (ma_ln s T V x p h)) = ma_pa s T V x p h := by
  have f1 := w.1
  rw [ma_ln_e, if_pos (show p < (T 3 0).toNat by omega)]
  unfold ma_pa ma_wf ma_ab
  rw [show ma_sm (T 3 0).toNat (ma_it s T V x) = ma_sp s T V x from rfl]
  by_cases c1 : ma_w0 s T V 0 p h < 5 <;> by_cases c2 : ma_w0 s T V x p h < 5
  · rw [if_pos c1, if_pos c2]; split <;> split <;> omega
  · rw [if_pos c1, if_neg c2]; split <;> split <;> omega
  · rw [if_neg c1, if_pos c2]; split <;> split <;> omega
  · rw [if_neg c1, if_neg c2]; split <;> split <;> omega
theorem m_ln (W : ma_W s T V) (D : ma_M s T V M) {x : Int} (hx : 1 ≤ x ∧ x ≤ 9) {p h : Nat} (hp : (p : Int) < T 3 0) (hh : (h : Int) < T 1 0) (y z : Int32) : ∃ M1, l_X12_askBy_82 (iI x) (iI (ma_mb s T V x (T 3 0).toNat : Nat)) y z (iI p) (iI h) gs_FU (iI 0) (iI 0) M = some (iI (ma_sm (T 3 0).toNat (ma_ln s T V x p h)), iI ((T 3 0).toNat : Nat), M1) ∧ iv_ag M M1 := by
  have w := W.2.1
  have f1 := W.2.1.1
  have bm := ma_mb_b s T V x (n := (T 3 0).toNat) (by omega)
  obtain ⟨r, e, M1, rfl, g⟩ := ma_up0 (fun f i (k : Int32 × gs_M) => l_X12_askBy_82 (iI x) (iI (ma_mb s T V x (T 3 0).toNat : Nat)) y z (iI p) (iI h) f k.1 i k.2) (T 3 0).toNat
    (fun i k => k.1 = iI (ma_sm i (ma_ln s T V x p h)) ∧ iv_ag M k.2)
    (fun r => ∃ M1, r = (iI (ma_sm (T 3 0).toNat (ma_ln s T V x p h)), iI ((T 3 0).toNat : Nat), M1) ∧ iv_ag M M1) (iI 0, M) (by omega) ⟨rfl, iv_ag.rf⟩
    (by
      rintro f i ⟨k1, N⟩ hi ⟨h1, hM⟩
      simp only at h1 hM
      subst h1
      left
      have DN := D.ag w hM
      have e1 := m_has (z := ma_mb s T V x (T 3 0).toNat) (i := i) (by omega) (by omega)
      rw [ma_mb_t] at e1
      have el : ma_ln s T V x p h i = if 0 < ma_hd s T V x i then (if ma_w0 s T V (if i = p then x else 0) p h < 5 then -1 else 1) else 0 := rfl
      rcases (by omega : ma_hd s T V x i ≤ 0 ∨ 0 < ma_hd s T V x i) with c | c
      · rw [if_neg (by simp; omega)] at e1
        rw [if_neg (by omega)] at el
        refine ⟨(iI (ma_sm (i + 1) (ma_ln s T V x p h)), N), ?_, rfl, hM⟩
        simp only [l_X12_askBy_82, ma_sm]
        simp (disch := omega) only [qn0, qn1, qn2, qn3, qn4, qn5, qn6, qn7, qn8, qn9, qn10, qn11, qn12, qn13, qn14, qn15, qn16, qn17, qn18, qn24, qn30, qn31, qn32, qn33, qn36, qn38, qn40, qn41, qn42, qn43, qn45, qn47, qn48, qn49, qn50, qn51, qn52, qn53, qn57, qn58, qn59, qn60, qn61, qn62, qn63, qn91, qn93, qn97, qn99, qn100, qn103, qn104, qn112, qn113, qn115, qn116, qn118, qn119, qn121, qn124, qn173, qn177, qn240, qn255, qn295, qn352, qn353, qn533, qn999, qn1000, qn1023, qn6561, qn10000, qn20787, qn1000000, qn252645135, qn858993459, qn1000000000, qn1431655765, q_s1, q_s2, q_s3, q_s4, q_s5, iI_add, iI_sub, iI_mul, iI_neg, q_lt, q_le, q_eq, qz0, qz1, qz2, qz3, if_pos, if_neg, reduceIte, DN.fo, e1, el, Int.add_zero]
      · rw [if_pos (by simp; omega)] at e1
        rw [if_pos c] at el
        obtain ⟨N1, e2, g2⟩ := m_wk W DN hp hh (g := if i = p then x else 0) (by split <;> omega)
        rw [show ma_wk s T V p h (if i = p then x else 0) (s (6 * p + 1)) = ma_w0 s T V (if i = p then x else 0) p h from rfl] at e2
        have bw : 0 ≤ ma_w0 s T V (if i = p then x else 0) p h ∧ ma_w0 s T V (if i = p then x else 0) p h ≤ 10 := ma_wk_b _ _ _ _ _ _ _
        refine ⟨(iI (ma_sm (i + 1) (ma_ln s T V x p h)), N1), ?_, rfl, hM.tr g2⟩
        simp only [l_X12_askBy_82, ma_sm]
        rw [el]
        rcases (by omega : i = p ∨ i ≠ p) with d | d
        · rw [if_pos d] at e2 bw ⊢
          rcases (by omega : ma_w0 s T V x p h < 5 ∨ 5 ≤ ma_w0 s T V x p h) with d2 | d2 <;> simp (disch := omega) only [qn0, qn1, qn2, qn3, qn4, qn5, qn6, qn7, qn8, qn9, qn10, qn11, qn12, qn13, qn14, qn15, qn16, qn17, qn18, qn24, qn30, qn31, qn32, qn33, qn36, qn38, qn40, qn41, qn42, qn43, qn45, qn47, qn48, qn49, qn50, qn51, qn52, qn53, qn57, qn58, qn59, qn60, qn61, qn62, qn63, qn91, qn93, qn97, qn99, qn100, qn103, qn104, qn112, qn113, qn115, qn116, qn118, qn119, qn121, qn124, qn173, qn177, qn240, qn255, qn295, qn352, qn353, qn533, qn999, qn1000, qn1023, qn6561, qn10000, qn20787, qn1000000, qn252645135, qn858993459, qn1000000000, qn1431655765, q_s1, q_s2, q_s3, q_s4, q_s5, iI_add, iI_sub, iI_mul, iI_neg, q_lt, q_le, q_eq, qz0, qz1, qz2, qz3, if_pos, if_neg, reduceIte, DN.fo, e1, e2]
        · rw [if_neg d] at e2 bw ⊢
          rcases (by omega : ma_w0 s T V 0 p h < 5 ∨ 5 ≤ ma_w0 s T V 0 p h) with d2 | d2 <;> simp (disch := omega) only [qn0, qn1, qn2, qn3, qn4, qn5, qn6, qn7, qn8, qn9, qn10, qn11, qn12, qn13, qn14, qn15, qn16, qn17, qn18, qn24, qn30, qn31, qn32, qn33, qn36, qn38, qn40, qn41, qn42, qn43, qn45, qn47, qn48, qn49, qn50, qn51, qn52, qn53, qn57, qn58, qn59, qn60, qn61, qn62, qn63, qn91, qn93, qn97, qn99, qn100, qn103, qn104, qn112, qn113, qn115, qn116, qn118, qn119, qn121, qn124, qn173, qn177, qn240, qn255, qn295, qn352, qn353, qn533, qn999, qn1000, qn1023, qn6561, qn10000, qn20787, qn1000000, qn252645135, qn858993459, qn1000000000, qn1431655765, q_s1, q_s2, q_s3, q_s4, q_s5, iI_add, iI_sub, iI_mul, iI_neg, q_lt, q_le, q_eq, qz0, qz1, qz2, qz3, if_pos, if_neg, reduceIte, DN.fo, e1, e2])
    (by
      rintro f ⟨k1, N⟩ ⟨h1, hM⟩
      simp only at h1 hM
      subst h1
      have DN := D.ag w hM
      refine ⟨_, ?_, N, rfl, hM⟩
      simp only [l_X12_askBy_82]
      simp (disch := omega) only [qn0, qn1, qn2, qn3, qn4, qn5, qn6, qn7, qn8, qn9, qn10, qn11, qn12, qn13, qn14, qn15, qn16, qn17, qn18, qn24, qn30, qn31, qn32, qn33, qn36, qn38, qn40, qn41, qn42, qn43, qn45, qn47, qn48, qn49, qn50, qn51, qn52, qn53, qn57, qn58, qn59, qn60, qn61, qn62, qn63, qn91, qn93, qn97, qn99, qn100, qn103, qn104, qn112, qn113, qn115, qn116, qn118, qn119, qn121, qn124, qn173, qn177, qn240, qn255, qn295, qn352, qn353, qn533, qn999, qn1000, qn1023, qn6561, qn10000, qn20787, qn1000000, qn252645135, qn858993459, qn1000000000, qn1431655765, q_s1, q_s2, q_s3, q_s4, q_s5, iI_add, iI_sub, iI_mul, iI_neg, q_lt, q_le, q_eq, qz0, qz1, qz2, qz3, if_pos, if_neg, reduceIte, DN.fo])
  exact ⟨M1, e, g⟩
theorem m_a1 (W : ma_W s T V) (D : ma_M s T V M) {x : Int} (hx : 1 ≤ x ∧ x ≤ 9) {p : Nat} (hp : (p : Int) < T 3 0) {q : Int × Int} (hq : ma_as q) : ∃ M1, l_X12_askBy_65 (iI x) (iI (ma_mb s T V x (T 3 0).toNat : Nat)) (iI p) gs_FU (iI q.1) (iI (if q.1 = -1 then 0 else q.2)) (iI 0) M = some (iI (ma_a1 s T V x p (T 1 0).toNat q).1, iI (if (ma_a1 s T V x p (T 1 0).toNat q).1 = -1 then 0 else (ma_a1 s T V x p (T 1 0).toNat q).2), iI ((T 1 0).toNat : Nat), M1) ∧ iv_ag M M1 := by
  have w := W.2.1
  have f1 := W.2.1.1
  have f2 := W.2.1.2.1
  obtain ⟨r, e, M1, rfl, g⟩ := ma_up0 (fun f i (k : Int32 × Int32 × gs_M) => l_X12_askBy_65 (iI x) (iI (ma_mb s T V x (T 3 0).toNat : Nat)) (iI p) f k.1 k.2.1 i k.2.2) (T 1 0).toNat
    (fun i k => k.1 = iI (ma_a1 s T V x p i q).1 ∧ k.2.1 = iI (if (ma_a1 s T V x p i q).1 = -1 then 0 else (ma_a1 s T V x p i q).2) ∧ iv_ag M k.2.2)
    (fun r => ∃ M1, r = (iI (ma_a1 s T V x p (T 1 0).toNat q).1, iI (if (ma_a1 s T V x p (T 1 0).toNat q).1 = -1 then 0 else (ma_a1 s T V x p (T 1 0).toNat q).2), iI ((T 1 0).toNat : Nat), M1) ∧ iv_ag M M1) (iI q.1, iI (if q.1 = -1 then 0 else q.2), M) (by omega) ⟨rfl, rfl, iv_ag.rf⟩
    (by
      rintro f i ⟨k1, k2, N⟩ hi ⟨h1, h2, hM⟩
      simp only at h1 h2 hM
      subst h1 h2
      left
      have DN := D.ag w hM
      obtain ⟨N1, e1, g1⟩ := m_ln W DN hx (p := p) (h := i) hp (by omega) (iI (ma_a1 s T V x p i q).1) (iI (if (ma_a1 s T V x p i q).1 = -1 then 0 else (ma_a1 s T V x p i q).2))
      have hs := ma_a1_s (s := s) (V := V) w (x := x) hp hq (h := i) (by omega)
      have bp := ma_pa_b w s V x hp i
      have hl := ma_ln_p (s := s) (V := V) w x hp i
      have bl : -8 ≤ ma_sm (T 3 0).toNat (ma_ln s T V x p i) ∧ ma_sm (T 3 0).toNat (ma_ln s T V x p i) ≤ 8 := by
        unfold ma_ab at hl
        split at hl <;> omega
      have e2 : (if 0 ≤ ma_sm (T 3 0).toNat (ma_ln s T V x p i) then iI (ma_sm (T 3 0).toNat (ma_ln s T V x p i)) else iI (0 - ma_sm (T 3 0).toNat (ma_ln s T V x p i))) = iI (ma_pa s T V x p i) := by
        rw [q_ab (by omega), hl]
      have hz : ma_a1 s T V x p (i + 1) q = if (ma_a1 s T V x p i q).2 ≤ ma_pa s T V x p i then ma_a1 s T V x p i q else (10 * (p : Int) + i, ma_pa s T V x p i) := rfl
      refine ⟨(iI (ma_a1 s T V x p (i + 1) q).1, iI (if (ma_a1 s T V x p (i + 1) q).1 = -1 then 0 else (ma_a1 s T V x p (i + 1) q).2), N1), ?_, rfl, rfl, hM.tr g1⟩
      simp only [l_X12_askBy_65]
      rcases hs with c | c
      · rw [if_pos c.1] at e1 ⊢
        rw [hz, if_neg (show ¬ (ma_a1 s T V x p i q).2 ≤ ma_pa s T V x p i by omega)]
        simp only
        rw [if_neg (show ¬ (10 * (p : Int) + i = -1) by omega)]
        rw [c.1] at e1 ⊢
        simp (disch := omega) only [qn0, qn1, qn2, qn3, qn4, qn5, qn6, qn7, qn8, qn9, qn10, qn11, qn12, qn13, qn14, qn15, qn16, qn17, qn18, qn24, qn30, qn31, qn32, qn33, qn36, qn38, qn40, qn41, qn42, qn43, qn45, qn47, qn48, qn49, qn50, qn51, qn52, qn53, qn57, qn58, qn59, qn60, qn61, qn62, qn63, qn91, qn93, qn97, qn99, qn100, qn103, qn104, qn112, qn113, qn115, qn116, qn118, qn119, qn121, qn124, qn173, qn177, qn240, qn255, qn295, qn352, qn353, qn533, qn999, qn1000, qn1023, qn6561, qn10000, qn20787, qn1000000, qn252645135, qn858993459, qn1000000000, qn1431655765, q_s1, q_s2, q_s3, q_s4, q_s5, iI_add, iI_sub, iI_mul, iI_neg, q_lt, q_le, q_eq, qz0, qz1, qz2, qz3, if_pos, if_neg, reduceIte, m_rule0 DN, e1, e2]
      · rw [if_neg (show ¬ (ma_a1 s T V x p i q).1 = -1 by omega)] at e1 ⊢
        rw [hz]
        rcases (by omega : (ma_a1 s T V x p i q).2 ≤ ma_pa s T V x p i ∨ ma_pa s T V x p i < (ma_a1 s T V x p i q).2) with d | d
        · rw [if_pos d, if_neg (show ¬ (ma_a1 s T V x p i q).1 = -1 by omega)]
          simp (disch := omega) only [qn0, qn1, qn2, qn3, qn4, qn5, qn6, qn7, qn8, qn9, qn10, qn11, qn12, qn13, qn14, qn15, qn16, qn17, qn18, qn24, qn30, qn31, qn32, qn33, qn36, qn38, qn40, qn41, qn42, qn43, qn45, qn47, qn48, qn49, qn50, qn51, qn52, qn53, qn57, qn58, qn59, qn60, qn61, qn62, qn63, qn91, qn93, qn97, qn99, qn100, qn103, qn104, qn112, qn113, qn115, qn116, qn118, qn119, qn121, qn124, qn173, qn177, qn240, qn255, qn295, qn352, qn353, qn533, qn999, qn1000, qn1023, qn6561, qn10000, qn20787, qn1000000, qn252645135, qn858993459, qn1000000000, qn1431655765, q_s1, q_s2, q_s3, q_s4, q_s5, iI_add, iI_sub, iI_mul, iI_neg, q_lt, q_le, q_eq, qz0, qz1, qz2, qz3, if_pos, if_neg, reduceIte, m_rule0 DN, e1, e2]
        · rw [if_neg (show ¬ (ma_a1 s T V x p i q).2 ≤ ma_pa s T V x p i by omega)]
          simp only
          rw [if_neg (show ¬ (10 * (p : Int) + i = -1) by omega)]
          simp (disch := omega) only [qn0, qn1, qn2, qn3, qn4, qn5, qn6, qn7, qn8, qn9, qn10, qn11, qn12, qn13, qn14, qn15, qn16, qn17, qn18, qn24, qn30, qn31, qn32, qn33, qn36, qn38, qn40, qn41, qn42, qn43, qn45, qn47, qn48, qn49, qn50, qn51, qn52, qn53, qn57, qn58, qn59, qn60, qn61, qn62, qn63, qn91, qn93, qn97, qn99, qn100, qn103, qn104, qn112, qn113, qn115, qn116, qn118, qn119, qn121, qn124, qn173, qn177, qn240, qn255, qn295, qn352, qn353, qn533, qn999, qn1000, qn1023, qn6561, qn10000, qn20787, qn1000000, qn252645135, qn858993459, qn1000000000, qn1431655765, q_s1, q_s2, q_s3, q_s4, q_s5, iI_add, iI_sub, iI_mul, iI_neg, q_lt, q_le, q_eq, qz0, qz1, qz2, qz3, if_pos, if_neg, reduceIte, m_rule0 DN, e1, e2])
    (by
      rintro f ⟨k1, k2, N⟩ ⟨h1, h2, hM⟩
      simp only at h1 h2 hM
      subst h1 h2
      have DN := D.ag w hM
      refine ⟨_, ?_, N, rfl, hM⟩
      simp only [l_X12_askBy_65]
      simp (disch := omega) only [qn0, qn1, qn2, qn3, qn4, qn5, qn6, qn7, qn8, qn9, qn10, qn11, qn12, qn13, qn14, qn15, qn16, qn17, qn18, qn24, qn30, qn31, qn32, qn33, qn36, qn38, qn40, qn41, qn42, qn43, qn45, qn47, qn48, qn49, qn50, qn51, qn52, qn53, qn57, qn58, qn59, qn60, qn61, qn62, qn63, qn91, qn93, qn97, qn99, qn100, qn103, qn104, qn112, qn113, qn115, qn116, qn118, qn119, qn121, qn124, qn173, qn177, qn240, qn255, qn295, qn352, qn353, qn533, qn999, qn1000, qn1023, qn6561, qn10000, qn20787, qn1000000, qn252645135, qn858993459, qn1000000000, qn1431655765, q_s1, q_s2, q_s3, q_s4, q_s5, iI_add, iI_sub, iI_mul, iI_neg, q_lt, q_le, q_eq, qz0, qz1, qz2, qz3, if_pos, if_neg, reduceIte, m_rule0 DN])
  exact ⟨M1, e, g⟩
theorem m_ask (W : ma_W s T V) (D : ma_M s T V M) (h0 : 0 < T 3 0) {x : Int} (hx : 1 ≤ x ∧ x ≤ 9) : ∃ M1, f_X12_askBy M (iI x) = some (iI (ma_ask s T V x), M1) ∧ iv_ag M M1 := by
  have w := W.2.1
  have f1 := W.2.1.1
  have f2 := W.2.1.2.1
  have bs := ma_sp_b w s V x
  have bm := ma_mb_b s T V x (n := (T 3 0).toNat) (by omega)
  obtain ⟨N0, e1, g0⟩ := m_mb W D hx
  have D0 := D.ag w g0
  have h00 := ma_mb_0 s T V x (T 3 0).toNat
  rw [show ma_sm (T 3 0).toNat (ma_it s T V x) = ma_sp s T V x from rfl] at h00
  by_cases c : 0 < ma_sp s T V x
  · have hm : ma_mb s T V x (T 3 0).toNat ≠ 0 := fun h => by
      have := h00.1 h
      omega
    obtain ⟨r, e2, M1, y, rfl, g⟩ := ma_up0 (fun f i (k : Int32 × Int32 × gs_M) => l_X12_askBy_53 (iI x) (iI (ma_mb s T V x (T 3 0).toNat : Nat)) f k.1 k.2.1 i k.2.2) (T 3 0).toNat
      (fun i k => k.1 = iI (ma_a2 s T V x (T 1 0).toNat i).1 ∧ k.2.1 = iI (if (ma_a2 s T V x (T 1 0).toNat i).1 = -1 then 0 else (ma_a2 s T V x (T 1 0).toNat i).2) ∧ iv_ag N0 k.2.2)
      (fun r => ∃ M1 y, r = (iI (ma_a2 s T V x (T 1 0).toNat (T 3 0).toNat).1, y, iI ((T 3 0).toNat : Nat), M1) ∧ iv_ag N0 M1) (iI (-1), iI 0, N0) (by omega) ⟨rfl, rfl, iv_ag.rf⟩
      (by
        rintro f i ⟨k1, k2, N⟩ hi ⟨h1, h2, hM⟩
        simp only at h1 h2 hM
        subst h1 h2
        left
        have DN := D0.ag w hM
        obtain ⟨N1, e3, g1⟩ := m_a1 W DN hx (p := i) (by omega) (ma_a2_s (s := s) (V := V) w (x := x) (p := i) (by omega) (H := (T 1 0).toNat) (by omega))
        refine ⟨(iI (ma_a2 s T V x (T 1 0).toNat (i + 1)).1, iI (if (ma_a2 s T V x (T 1 0).toNat (i + 1)).1 = -1 then 0 else (ma_a2 s T V x (T 1 0).toNat (i + 1)).2), N1), ?_, rfl, rfl, hM.tr g1⟩
        simp only [l_X12_askBy_53]
        rw [qn0, qn1, if_neg (by rw [DN.fo, q_le (by omega)]; omega), e3, gs_s4, iI_add]
        rfl)
      (by
        rintro f ⟨k1, k2, N⟩ ⟨h1, h2, hM⟩
        simp only at h1 h2 hM
        subst h1 h2
        have DN := D0.ag w hM
        refine ⟨_, ?_, N, iI (if (ma_a2 s T V x (T 1 0).toNat (T 3 0).toNat).1 = -1 then 0 else (ma_a2 s T V x (T 1 0).toNat (T 3 0).toNat).2), rfl, hM⟩
        simp only [l_X12_askBy_53]
        simp (disch := omega) only [qn0, qn1, qn2, qn3, qn4, qn5, qn6, qn7, qn8, qn9, qn10, qn11, qn12, qn13, qn14, qn15, qn16, qn17, qn18, qn24, qn30, qn31, qn32, qn33, qn36, qn38, qn40, qn41, qn42, qn43, qn45, qn47, qn48, qn49, qn50, qn51, qn52, qn53, qn57, qn58, qn59, qn60, qn61, qn62, qn63, qn91, qn93, qn97, qn99, qn100, qn103, qn104, qn112, qn113, qn115, qn116, qn118, qn119, qn121, qn124, qn173, qn177, qn240, qn255, qn295, qn352, qn353, qn533, qn999, qn1000, qn1023, qn6561, qn10000, qn20787, qn1000000, qn252645135, qn858993459, qn1000000000, qn1431655765, q_s1, q_s2, q_s3, q_s4, q_s5, iI_add, iI_sub, iI_mul, iI_neg, q_lt, q_le, q_eq, qz0, qz1, qz2, qz3, if_pos, if_neg, reduceIte, DN.fo])
    refine ⟨M1, ?_, g0.tr g⟩
    have e2' : l_X12_askBy_53 (iI x) (iI (ma_mb s T V x (T 3 0).toNat : Nat)) gs_FU (iI (-1)) (iI 0) (iI 0) N0 = some (iI (ma_a2 s T V x (T 1 0).toNat (T 3 0).toNat).1, y, iI ((T 3 0).toNat : Nat), M1) := e2
    unfold f_X12_askBy ma_ask
    simp (disch := omega) only [qn0, qn1, qn2, qn3, qn4, qn5, qn6, qn7, qn8, qn9, qn10, qn11, qn12, qn13, qn14, qn15, qn16, qn17, qn18, qn24, qn30, qn31, qn32, qn33, qn36, qn38, qn40, qn41, qn42, qn43, qn45, qn47, qn48, qn49, qn50, qn51, qn52, qn53, qn57, qn58, qn59, qn60, qn61, qn62, qn63, qn91, qn93, qn97, qn99, qn100, qn103, qn104, qn112, qn113, qn115, qn116, qn118, qn119, qn121, qn124, qn173, qn177, qn240, qn255, qn295, qn352, qn353, qn533, qn999, qn1000, qn1023, qn6561, qn10000, qn20787, qn1000000, qn252645135, qn858993459, qn1000000000, qn1431655765, q_s1, q_s2, q_s3, q_s4, q_s5, iI_add, iI_sub, iI_mul, iI_neg, q_lt, q_le, q_eq, qz0, qz1, qz2, qz3, if_pos, if_neg, reduceIte, e1, e2']
  · have hm : ma_mb s T V x (T 3 0).toNat = 0 := h00.2 (by omega)
    rw [hm] at e1
    refine ⟨N0, ?_, g0⟩
    unfold f_X12_askBy ma_ask
    simp (disch := omega) only [qn0, qn1, qn2, qn3, qn4, qn5, qn6, qn7, qn8, qn9, qn10, qn11, qn12, qn13, qn14, qn15, qn16, qn17, qn18, qn24, qn30, qn31, qn32, qn33, qn36, qn38, qn40, qn41, qn42, qn43, qn45, qn47, qn48, qn49, qn50, qn51, qn52, qn53, qn57, qn58, qn59, qn60, qn61, qn62, qn63, qn91, qn93, qn97, qn99, qn100, qn103, qn104, qn112, qn113, qn115, qn116, qn118, qn119, qn121, qn124, qn173, qn177, qn240, qn255, qn295, qn352, qn353, qn533, qn999, qn1000, qn1023, qn6561, qn10000, qn20787, qn1000000, qn252645135, qn858993459, qn1000000000, qn1431655765, q_s1, q_s2, q_s3, q_s4, q_s5, iI_add, iI_sub, iI_mul, iI_neg, q_lt, q_le, q_eq, qz0, qz1, qz2, qz3, if_pos, if_neg, reduceIte, e1, Int.natCast_zero, Int.cast_ofNat_Int]
end Who
theorem s_who : gl_S_who ma_Inv := by
  intro M L hI x1 x2
  have hI0 := hI
  obtain ⟨s, T, V, W, C, D⟩ := hI
  have w := W.2.1
  obtain ⟨f1, f2, f3, f4, f5, f6, f7, f8, f9, f10, f11, f12, f13, f14, -⟩ := W.2.1
  have D1 := ma_D0 D w (iI 0)
  obtain ⟨x, z1, z2, rfl⟩ := q_any x1
  obtain ⟨y, y1, y2, rfl⟩ := q_any x2
  rcases (by omega : T 3 0 = 0 ∨ (0 < T 3 0 ∧ x < 1) ∨ (0 < T 3 0 ∧ 9 < x) ∨ (0 < T 3 0 ∧ 1 ≤ x ∧ x ≤ 9 ∧ y < 0) ∨ (0 < T 3 0 ∧ 1 ≤ x ∧ x ≤ 9 ∧ 2 < y) ∨ (0 < T 3 0 ∧ 1 ≤ x ∧ x ≤ 9 ∧ 0 ≤ y ∧ y ≤ 2)) with c | c | c | c | c | c
  · refine ⟨iI (-1), M, L, gs_up M 147 0 (iI 0), ?_, ?_, hI0.ag (ma_g0 iv_ag.rf _)⟩
    · unfold f_X11_who
      simp (disch := omega) only [qn0, qn1, qn2, qn3, qn4, qn5, qn6, qn7, qn8, qn9, qn10, qn11, qn12, qn13, qn14, qn15, qn16, qn17, qn18, qn24, qn30, qn31, qn32, qn33, qn36, qn38, qn40, qn41, qn42, qn43, qn45, qn47, qn48, qn49, qn50, qn51, qn52, qn53, qn57, qn58, qn59, qn60, qn61, qn62, qn63, qn91, qn93, qn97, qn99, qn100, qn103, qn104, qn112, qn113, qn115, qn116, qn118, qn119, qn121, qn124, qn173, qn177, qn240, qn255, qn295, qn352, qn353, qn533, qn999, qn1000, qn1023, qn6561, qn10000, qn20787, qn1000000, qn252645135, qn858993459, qn1000000000, qn1431655765, qj0, qj1, qj2, qj4, qj7, qj8, qj9, qj10, qj30, qj100, qj1000, qj1000000, qj1000000000, qj1442695040888963407, qj6364136223846793005, q_s1, q_s2, q_s3, q_s4, q_s5, iI_add, iI_sub, iI_mul, iI_neg, q_lt, q_le, q_eq, jI_add, jI_sub, jI_mul, jI_neg, jI_of, jI_to, j_le0, j_ge0, j_lt0, j_gt0, j_eq0, q_dvl, qz0, qz1, qz2, qz3, if_pos, if_neg, reduceIte, c_town0 C c]
    · unfold f_X12_who
      simp (disch := omega) only [qn0, qn1, qn2, qn3, qn4, qn5, qn6, qn7, qn8, qn9, qn10, qn11, qn12, qn13, qn14, qn15, qn16, qn17, qn18, qn24, qn30, qn31, qn32, qn33, qn36, qn38, qn40, qn41, qn42, qn43, qn45, qn47, qn48, qn49, qn50, qn51, qn52, qn53, qn57, qn58, qn59, qn60, qn61, qn62, qn63, qn91, qn93, qn97, qn99, qn100, qn103, qn104, qn112, qn113, qn115, qn116, qn118, qn119, qn121, qn124, qn173, qn177, qn240, qn255, qn295, qn352, qn353, qn533, qn999, qn1000, qn1023, qn6561, qn10000, qn20787, qn1000000, qn252645135, qn858993459, qn1000000000, qn1431655765, qj0, qj1, qj2, qj4, qj7, qj8, qj9, qj10, qj30, qj100, qj1000, qj1000000, qj1000000000, qj1442695040888963407, qj6364136223846793005, q_s1, q_s2, q_s3, q_s4, q_s5, iI_add, iI_sub, iI_mul, iI_neg, q_lt, q_le, q_eq, jI_add, jI_sub, jI_mul, jI_neg, jI_of, jI_to, j_le0, j_ge0, j_lt0, j_gt0, j_eq0, q_dvl, qz0, qz1, qz2, qz3, if_pos, if_neg, reduceIte, D1.fo]
  · refine ⟨iI (-1), M, L, gs_up M 147 0 (iI 0), ?_, ?_, hI0.ag (ma_g0 iv_ag.rf _)⟩
    · unfold f_X11_who
      simp (disch := omega) only [qn0, qn1, qn2, qn3, qn4, qn5, qn6, qn7, qn8, qn9, qn10, qn11, qn12, qn13, qn14, qn15, qn16, qn17, qn18, qn24, qn30, qn31, qn32, qn33, qn36, qn38, qn40, qn41, qn42, qn43, qn45, qn47, qn48, qn49, qn50, qn51, qn52, qn53, qn57, qn58, qn59, qn60, qn61, qn62, qn63, qn91, qn93, qn97, qn99, qn100, qn103, qn104, qn112, qn113, qn115, qn116, qn118, qn119, qn121, qn124, qn173, qn177, qn240, qn255, qn295, qn352, qn353, qn533, qn999, qn1000, qn1023, qn6561, qn10000, qn20787, qn1000000, qn252645135, qn858993459, qn1000000000, qn1431655765, qj0, qj1, qj2, qj4, qj7, qj8, qj9, qj10, qj30, qj100, qj1000, qj1000000, qj1000000000, qj1442695040888963407, qj6364136223846793005, q_s1, q_s2, q_s3, q_s4, q_s5, iI_add, iI_sub, iI_mul, iI_neg, q_lt, q_le, q_eq, jI_add, jI_sub, jI_mul, jI_neg, jI_of, jI_to, j_le0, j_ge0, j_lt0, j_gt0, j_eq0, q_dvl, qz0, qz1, qz2, qz3, if_pos, if_neg, reduceIte, c_town1 w C c.1]
    · unfold f_X12_who
      simp (disch := omega) only [qn0, qn1, qn2, qn3, qn4, qn5, qn6, qn7, qn8, qn9, qn10, qn11, qn12, qn13, qn14, qn15, qn16, qn17, qn18, qn24, qn30, qn31, qn32, qn33, qn36, qn38, qn40, qn41, qn42, qn43, qn45, qn47, qn48, qn49, qn50, qn51, qn52, qn53, qn57, qn58, qn59, qn60, qn61, qn62, qn63, qn91, qn93, qn97, qn99, qn100, qn103, qn104, qn112, qn113, qn115, qn116, qn118, qn119, qn121, qn124, qn173, qn177, qn240, qn255, qn295, qn352, qn353, qn533, qn999, qn1000, qn1023, qn6561, qn10000, qn20787, qn1000000, qn252645135, qn858993459, qn1000000000, qn1431655765, qj0, qj1, qj2, qj4, qj7, qj8, qj9, qj10, qj30, qj100, qj1000, qj1000000, qj1000000000, qj1442695040888963407, qj6364136223846793005, q_s1, q_s2, q_s3, q_s4, q_s5, iI_add, iI_sub, iI_mul, iI_neg, q_lt, q_le, q_eq, jI_add, jI_sub, jI_mul, jI_neg, jI_of, jI_to, j_le0, j_ge0, j_lt0, j_gt0, j_eq0, q_dvl, qz0, qz1, qz2, qz3, if_pos, if_neg, reduceIte, D1.fo, m_isOut, m_isIn]
  · refine ⟨iI (-1), M, L, gs_up M 147 0 (iI 0), ?_, ?_, hI0.ag (ma_g0 iv_ag.rf _)⟩
    · unfold f_X11_who
      simp (disch := omega) only [qn0, qn1, qn2, qn3, qn4, qn5, qn6, qn7, qn8, qn9, qn10, qn11, qn12, qn13, qn14, qn15, qn16, qn17, qn18, qn24, qn30, qn31, qn32, qn33, qn36, qn38, qn40, qn41, qn42, qn43, qn45, qn47, qn48, qn49, qn50, qn51, qn52, qn53, qn57, qn58, qn59, qn60, qn61, qn62, qn63, qn91, qn93, qn97, qn99, qn100, qn103, qn104, qn112, qn113, qn115, qn116, qn118, qn119, qn121, qn124, qn173, qn177, qn240, qn255, qn295, qn352, qn353, qn533, qn999, qn1000, qn1023, qn6561, qn10000, qn20787, qn1000000, qn252645135, qn858993459, qn1000000000, qn1431655765, qj0, qj1, qj2, qj4, qj7, qj8, qj9, qj10, qj30, qj100, qj1000, qj1000000, qj1000000000, qj1442695040888963407, qj6364136223846793005, q_s1, q_s2, q_s3, q_s4, q_s5, iI_add, iI_sub, iI_mul, iI_neg, q_lt, q_le, q_eq, jI_add, jI_sub, jI_mul, jI_neg, jI_of, jI_to, j_le0, j_ge0, j_lt0, j_gt0, j_eq0, q_dvl, qz0, qz1, qz2, qz3, if_pos, if_neg, reduceIte, c_town1 w C c.1]
    · unfold f_X12_who
      simp (disch := omega) only [qn0, qn1, qn2, qn3, qn4, qn5, qn6, qn7, qn8, qn9, qn10, qn11, qn12, qn13, qn14, qn15, qn16, qn17, qn18, qn24, qn30, qn31, qn32, qn33, qn36, qn38, qn40, qn41, qn42, qn43, qn45, qn47, qn48, qn49, qn50, qn51, qn52, qn53, qn57, qn58, qn59, qn60, qn61, qn62, qn63, qn91, qn93, qn97, qn99, qn100, qn103, qn104, qn112, qn113, qn115, qn116, qn118, qn119, qn121, qn124, qn173, qn177, qn240, qn255, qn295, qn352, qn353, qn533, qn999, qn1000, qn1023, qn6561, qn10000, qn20787, qn1000000, qn252645135, qn858993459, qn1000000000, qn1431655765, qj0, qj1, qj2, qj4, qj7, qj8, qj9, qj10, qj30, qj100, qj1000, qj1000000, qj1000000000, qj1442695040888963407, qj6364136223846793005, q_s1, q_s2, q_s3, q_s4, q_s5, iI_add, iI_sub, iI_mul, iI_neg, q_lt, q_le, q_eq, jI_add, jI_sub, jI_mul, jI_neg, jI_of, jI_to, j_le0, j_ge0, j_lt0, j_gt0, j_eq0, q_dvl, qz0, qz1, qz2, qz3, if_pos, if_neg, reduceIte, D1.fo, m_isOut, m_isIn]
  · refine ⟨iI (-1), M, L, gs_up M 147 0 (iI 0), ?_, ?_, hI0.ag (ma_g0 iv_ag.rf _)⟩
    · unfold f_X11_who
      simp (disch := omega) only [qn0, qn1, qn2, qn3, qn4, qn5, qn6, qn7, qn8, qn9, qn10, qn11, qn12, qn13, qn14, qn15, qn16, qn17, qn18, qn24, qn30, qn31, qn32, qn33, qn36, qn38, qn40, qn41, qn42, qn43, qn45, qn47, qn48, qn49, qn50, qn51, qn52, qn53, qn57, qn58, qn59, qn60, qn61, qn62, qn63, qn91, qn93, qn97, qn99, qn100, qn103, qn104, qn112, qn113, qn115, qn116, qn118, qn119, qn121, qn124, qn173, qn177, qn240, qn255, qn295, qn352, qn353, qn533, qn999, qn1000, qn1023, qn6561, qn10000, qn20787, qn1000000, qn252645135, qn858993459, qn1000000000, qn1431655765, qj0, qj1, qj2, qj4, qj7, qj8, qj9, qj10, qj30, qj100, qj1000, qj1000000, qj1000000000, qj1442695040888963407, qj6364136223846793005, q_s1, q_s2, q_s3, q_s4, q_s5, iI_add, iI_sub, iI_mul, iI_neg, q_lt, q_le, q_eq, jI_add, jI_sub, jI_mul, jI_neg, jI_of, jI_to, j_le0, j_ge0, j_lt0, j_gt0, j_eq0, q_dvl, qz0, qz1, qz2, qz3, if_pos, if_neg, reduceIte, c_town1 w C c.1]
    · unfold f_X12_who
      simp (disch := omega) only [qn0, qn1, qn2, qn3, qn4, qn5, qn6, qn7, qn8, qn9, qn10, qn11, qn12, qn13, qn14, qn15, qn16, qn17, qn18, qn24, qn30, qn31, qn32, qn33, qn36, qn38, qn40, qn41, qn42, qn43, qn45, qn47, qn48, qn49, qn50, qn51, qn52, qn53, qn57, qn58, qn59, qn60, qn61, qn62, qn63, qn91, qn93, qn97, qn99, qn100, qn103, qn104, qn112, qn113, qn115, qn116, qn118, qn119, qn121, qn124, qn173, qn177, qn240, qn255, qn295, qn352, qn353, qn533, qn999, qn1000, qn1023, qn6561, qn10000, qn20787, qn1000000, qn252645135, qn858993459, qn1000000000, qn1431655765, qj0, qj1, qj2, qj4, qj7, qj8, qj9, qj10, qj30, qj100, qj1000, qj1000000, qj1000000000, qj1442695040888963407, qj6364136223846793005, q_s1, q_s2, q_s3, q_s4, q_s5, iI_add, iI_sub, iI_mul, iI_neg, q_lt, q_le, q_eq, jI_add, jI_sub, jI_mul, jI_neg, jI_of, jI_to, j_le0, j_ge0, j_lt0, j_gt0, j_eq0, q_dvl, qz0, qz1, qz2, qz3, if_pos, if_neg, reduceIte, D1.fo, m_isOut, m_isIn]
  · refine ⟨iI (-1), M, L, gs_up M 147 0 (iI 0), ?_, ?_, hI0.ag (ma_g0 iv_ag.rf _)⟩
    · unfold f_X11_who
      simp (disch := omega) only [qn0, qn1, qn2, qn3, qn4, qn5, qn6, qn7, qn8, qn9, qn10, qn11, qn12, qn13, qn14, qn15, qn16, qn17, qn18, qn24, qn30, qn31, qn32, qn33, qn36, qn38, qn40, qn41, qn42, qn43, qn45, qn47, qn48, qn49, qn50, qn51, qn52, qn53, qn57, qn58, qn59, qn60, qn61, qn62, qn63, qn91, qn93, qn97, qn99, qn100, qn103, qn104, qn112, qn113, qn115, qn116, qn118, qn119, qn121, qn124, qn173, qn177, qn240, qn255, qn295, qn352, qn353, qn533, qn999, qn1000, qn1023, qn6561, qn10000, qn20787, qn1000000, qn252645135, qn858993459, qn1000000000, qn1431655765, qj0, qj1, qj2, qj4, qj7, qj8, qj9, qj10, qj30, qj100, qj1000, qj1000000, qj1000000000, qj1442695040888963407, qj6364136223846793005, q_s1, q_s2, q_s3, q_s4, q_s5, iI_add, iI_sub, iI_mul, iI_neg, q_lt, q_le, q_eq, jI_add, jI_sub, jI_mul, jI_neg, jI_of, jI_to, j_le0, j_ge0, j_lt0, j_gt0, j_eq0, q_dvl, qz0, qz1, qz2, qz3, if_pos, if_neg, reduceIte, c_town1 w C c.1]
    · unfold f_X12_who
      simp (disch := omega) only [qn0, qn1, qn2, qn3, qn4, qn5, qn6, qn7, qn8, qn9, qn10, qn11, qn12, qn13, qn14, qn15, qn16, qn17, qn18, qn24, qn30, qn31, qn32, qn33, qn36, qn38, qn40, qn41, qn42, qn43, qn45, qn47, qn48, qn49, qn50, qn51, qn52, qn53, qn57, qn58, qn59, qn60, qn61, qn62, qn63, qn91, qn93, qn97, qn99, qn100, qn103, qn104, qn112, qn113, qn115, qn116, qn118, qn119, qn121, qn124, qn173, qn177, qn240, qn255, qn295, qn352, qn353, qn533, qn999, qn1000, qn1023, qn6561, qn10000, qn20787, qn1000000, qn252645135, qn858993459, qn1000000000, qn1431655765, qj0, qj1, qj2, qj4, qj7, qj8, qj9, qj10, qj30, qj100, qj1000, qj1000000, qj1000000000, qj1442695040888963407, qj6364136223846793005, q_s1, q_s2, q_s3, q_s4, q_s5, iI_add, iI_sub, iI_mul, iI_neg, q_lt, q_le, q_eq, jI_add, jI_sub, jI_mul, jI_neg, jI_of, jI_to, j_le0, j_ge0, j_lt0, j_gt0, j_eq0, q_dvl, qz0, qz1, qz2, qz3, if_pos, if_neg, reduceIte, D1.fo, m_isOut, m_isIn]
  · obtain ⟨M1, L1, e1, g1, hL⟩ := c_weigh W C (x := x) (by omega) L
    have C1 := C.ag w g1
    have D2 := ma_D0 (D.ag w g1) w (iI 0)
    rcases (by omega : y = 0 ∨ y = 1 ∨ y = 2) with d | d | d
    · have e2 := c_lko W C1 c.1 hL
      obtain ⟨M2, e3, g2⟩ := m_lko_l W D2 c.1 (x := x) (by omega)
      rw [show iI (ma_am (ma_hd s T V x) 1 : Nat) = iI 0 by rw [ma_am_1]; rfl] at e3
      refine ⟨iI (ma_am (ma_hd s T V x) (T 3 0).toNat : Nat), M1, L1, M2, ?_, ?_, hI0.ag ((ma_g0 g1 _).tr g2)⟩
      · unfold f_X11_who
        simp (disch := omega) only [qn0, qn1, qn2, qn3, qn4, qn5, qn6, qn7, qn8, qn9, qn10, qn11, qn12, qn13, qn14, qn15, qn16, qn17, qn18, qn24, qn30, qn31, qn32, qn33, qn36, qn38, qn40, qn41, qn42, qn43, qn45, qn47, qn48, qn49, qn50, qn51, qn52, qn53, qn57, qn58, qn59, qn60, qn61, qn62, qn63, qn91, qn93, qn97, qn99, qn100, qn103, qn104, qn112, qn113, qn115, qn116, qn118, qn119, qn121, qn124, qn173, qn177, qn240, qn255, qn295, qn352, qn353, qn533, qn999, qn1000, qn1023, qn6561, qn10000, qn20787, qn1000000, qn252645135, qn858993459, qn1000000000, qn1431655765, qj0, qj1, qj2, qj4, qj7, qj8, qj9, qj10, qj30, qj100, qj1000, qj1000000, qj1000000000, qj1442695040888963407, qj6364136223846793005, q_s1, q_s2, q_s3, q_s4, q_s5, iI_add, iI_sub, iI_mul, iI_neg, q_lt, q_le, q_eq, jI_add, jI_sub, jI_mul, jI_neg, jI_of, jI_to, j_le0, j_ge0, j_lt0, j_gt0, j_eq0, q_dvl, qz0, qz1, qz2, qz3, if_pos, if_neg, reduceIte, c_town1 w C c.1, e1, e2]
      · unfold f_X12_who f_X12_whoBy
        simp (disch := omega) only [qn0, qn1, qn2, qn3, qn4, qn5, qn6, qn7, qn8, qn9, qn10, qn11, qn12, qn13, qn14, qn15, qn16, qn17, qn18, qn24, qn30, qn31, qn32, qn33, qn36, qn38, qn40, qn41, qn42, qn43, qn45, qn47, qn48, qn49, qn50, qn51, qn52, qn53, qn57, qn58, qn59, qn60, qn61, qn62, qn63, qn91, qn93, qn97, qn99, qn100, qn103, qn104, qn112, qn113, qn115, qn116, qn118, qn119, qn121, qn124, qn173, qn177, qn240, qn255, qn295, qn352, qn353, qn533, qn999, qn1000, qn1023, qn6561, qn10000, qn20787, qn1000000, qn252645135, qn858993459, qn1000000000, qn1431655765, qj0, qj1, qj2, qj4, qj7, qj8, qj9, qj10, qj30, qj100, qj1000, qj1000000, qj1000000000, qj1442695040888963407, qj6364136223846793005, q_s1, q_s2, q_s3, q_s4, q_s5, iI_add, iI_sub, iI_mul, iI_neg, q_lt, q_le, q_eq, jI_add, jI_sub, jI_mul, jI_neg, jI_of, jI_to, j_le0, j_ge0, j_lt0, j_gt0, j_eq0, q_dvl, qz0, qz1, qz2, qz3, if_pos, if_neg, reduceIte, D2.fo, m_isIn, e3]
    · have e2 := c_sure W C1 c.1 hL
      obtain ⟨M2, e3, g2⟩ := m_lko_l W D2 c.1 (x := x) (by omega)
      rw [show iI (ma_am (ma_hd s T V x) 1 : Nat) = iI 0 by rw [ma_am_1]; rfl] at e3
      have D3 := D2.ag w g2
      obtain ⟨M3, e4, g3⟩ := m_all_l W D3 (x := x) (by omega) (iI 1) (iI (ma_am (ma_hd s T V x) (T 3 0).toNat : Nat))
      rw [show jI (ma_sm 0 (ma_hd s T V x)) = jI 0 from rfl] at e4
      have D4 := D3.ag w g3
      have b3 : ma_am (ma_hd s T V x) (T 3 0).toNat ≤ (T 3 0).toNat - 1 := ma_am_b _ _
      obtain ⟨M4, e5, g4⟩ := m_held W D4 (x := x) (by omega) (p := ma_am (ma_hd s T V x) (T 3 0).toNat) (by omega)
      have bs := ma_su1_b w s V x
      have ba := ma_hd_b w s V x (ma_am (ma_hd s T V x) (T 3 0).toNat)
      have hy : iI y = iI 1 := by rw [d]
      by_cases c0 : 0 < ma_sm (T 3 0).toNat (ma_hd s T V x)
      · refine ⟨iI (ma_su1 s T V x), M1, L1, M4, ?_, ?_, hI0.ag ((ma_g0 g1 _).tr (g2.tr (g3.tr g4)))⟩
        · unfold f_X11_who
          simp (disch := omega) only [qn0, qn1, qn2, qn3, qn4, qn5, qn6, qn7, qn8, qn9, qn10, qn11, qn12, qn13, qn14, qn15, qn16, qn17, qn18, qn24, qn30, qn31, qn32, qn33, qn36, qn38, qn40, qn41, qn42, qn43, qn45, qn47, qn48, qn49, qn50, qn51, qn52, qn53, qn57, qn58, qn59, qn60, qn61, qn62, qn63, qn91, qn93, qn97, qn99, qn100, qn103, qn104, qn112, qn113, qn115, qn116, qn118, qn119, qn121, qn124, qn173, qn177, qn240, qn255, qn295, qn352, qn353, qn533, qn999, qn1000, qn1023, qn6561, qn10000, qn20787, qn1000000, qn252645135, qn858993459, qn1000000000, qn1431655765, qj0, qj1, qj2, qj4, qj7, qj8, qj9, qj10, qj30, qj100, qj1000, qj1000000, qj1000000000, qj1442695040888963407, qj6364136223846793005, q_s1, q_s2, q_s3, q_s4, q_s5, iI_add, iI_sub, iI_mul, iI_neg, q_lt, q_le, q_eq, jI_add, jI_sub, jI_mul, jI_neg, jI_of, jI_to, j_le0, j_ge0, j_lt0, j_gt0, j_eq0, q_dvl, qz0, qz1, qz2, qz3, if_pos, if_neg, reduceIte, c_town1 w C c.1, e1, e2]
        · unfold f_X12_who f_X12_whoBy ma_su1
          rw [hy, if_pos c0, Int.mul_comm]
          simp (disch := omega) only [qn0, qn1, qn2, qn3, qn4, qn5, qn6, qn7, qn8, qn9, qn10, qn11, qn12, qn13, qn14, qn15, qn16, qn17, qn18, qn24, qn30, qn31, qn32, qn33, qn36, qn38, qn40, qn41, qn42, qn43, qn45, qn47, qn48, qn49, qn50, qn51, qn52, qn53, qn57, qn58, qn59, qn60, qn61, qn62, qn63, qn91, qn93, qn97, qn99, qn100, qn103, qn104, qn112, qn113, qn115, qn116, qn118, qn119, qn121, qn124, qn173, qn177, qn240, qn255, qn295, qn352, qn353, qn533, qn999, qn1000, qn1023, qn6561, qn10000, qn20787, qn1000000, qn252645135, qn858993459, qn1000000000, qn1431655765, qj0, qj1, qj2, qj4, qj7, qj8, qj9, qj10, qj30, qj100, qj1000, qj1000000, qj1000000000, qj1442695040888963407, qj6364136223846793005, q_s1, q_s2, q_s3, q_s4, q_s5, iI_add, iI_sub, iI_mul, iI_neg, q_lt, q_le, q_eq, jI_add, jI_sub, jI_mul, jI_neg, jI_of, jI_to, j_le0, j_ge0, j_lt0, j_gt0, j_eq0, q_dvl, qz0, qz1, qz2, qz3, if_pos, if_neg, reduceIte, D2.fo, m_isIn, e3, e4, e5]
      · refine ⟨iI (ma_su1 s T V x), M1, L1, M3, ?_, ?_, hI0.ag ((ma_g0 g1 _).tr (g2.tr g3))⟩
        · unfold f_X11_who
          simp (disch := omega) only [qn0, qn1, qn2, qn3, qn4, qn5, qn6, qn7, qn8, qn9, qn10, qn11, qn12, qn13, qn14, qn15, qn16, qn17, qn18, qn24, qn30, qn31, qn32, qn33, qn36, qn38, qn40, qn41, qn42, qn43, qn45, qn47, qn48, qn49, qn50, qn51, qn52, qn53, qn57, qn58, qn59, qn60, qn61, qn62, qn63, qn91, qn93, qn97, qn99, qn100, qn103, qn104, qn112, qn113, qn115, qn116, qn118, qn119, qn121, qn124, qn173, qn177, qn240, qn255, qn295, qn352, qn353, qn533, qn999, qn1000, qn1023, qn6561, qn10000, qn20787, qn1000000, qn252645135, qn858993459, qn1000000000, qn1431655765, qj0, qj1, qj2, qj4, qj7, qj8, qj9, qj10, qj30, qj100, qj1000, qj1000000, qj1000000000, qj1442695040888963407, qj6364136223846793005, q_s1, q_s2, q_s3, q_s4, q_s5, iI_add, iI_sub, iI_mul, iI_neg, q_lt, q_le, q_eq, jI_add, jI_sub, jI_mul, jI_neg, jI_of, jI_to, j_le0, j_ge0, j_lt0, j_gt0, j_eq0, q_dvl, qz0, qz1, qz2, qz3, if_pos, if_neg, reduceIte, c_town1 w C c.1, e1, e2]
        · unfold f_X12_who f_X12_whoBy ma_su1
          rw [hy, if_neg c0]
          simp (disch := omega) only [qn0, qn1, qn2, qn3, qn4, qn5, qn6, qn7, qn8, qn9, qn10, qn11, qn12, qn13, qn14, qn15, qn16, qn17, qn18, qn24, qn30, qn31, qn32, qn33, qn36, qn38, qn40, qn41, qn42, qn43, qn45, qn47, qn48, qn49, qn50, qn51, qn52, qn53, qn57, qn58, qn59, qn60, qn61, qn62, qn63, qn91, qn93, qn97, qn99, qn100, qn103, qn104, qn112, qn113, qn115, qn116, qn118, qn119, qn121, qn124, qn173, qn177, qn240, qn255, qn295, qn352, qn353, qn533, qn999, qn1000, qn1023, qn6561, qn10000, qn20787, qn1000000, qn252645135, qn858993459, qn1000000000, qn1431655765, qj0, qj1, qj2, qj4, qj7, qj8, qj9, qj10, qj30, qj100, qj1000, qj1000000, qj1000000000, qj1442695040888963407, qj6364136223846793005, q_s1, q_s2, q_s3, q_s4, q_s5, iI_add, iI_sub, iI_mul, iI_neg, q_lt, q_le, q_eq, jI_add, jI_sub, jI_mul, jI_neg, jI_of, jI_to, j_le0, j_ge0, j_lt0, j_gt0, j_eq0, q_dvl, qz0, qz1, qz2, qz3, if_pos, if_neg, reduceIte, D2.fo, m_isIn, e3, e4, e5]
    · obtain ⟨M2, e2, g2⟩ := c_ask W C1 c.1 (x := x) (by omega) hL
      have D3 := ma_D0 (D.ag w (g1.tr g2)) w (iI 0)
      obtain ⟨M3, e3, g3⟩ := m_ask W D3 c.1 (x := x) (by omega)
      refine ⟨iI (ma_ask s T V x), M2, L1, M3, ?_, ?_, hI0.ag ((ma_g0 (g1.tr g2) _).tr g3)⟩
      · unfold f_X11_who
        simp (disch := omega) only [qn0, qn1, qn2, qn3, qn4, qn5, qn6, qn7, qn8, qn9, qn10, qn11, qn12, qn13, qn14, qn15, qn16, qn17, qn18, qn24, qn30, qn31, qn32, qn33, qn36, qn38, qn40, qn41, qn42, qn43, qn45, qn47, qn48, qn49, qn50, qn51, qn52, qn53, qn57, qn58, qn59, qn60, qn61, qn62, qn63, qn91, qn93, qn97, qn99, qn100, qn103, qn104, qn112, qn113, qn115, qn116, qn118, qn119, qn121, qn124, qn173, qn177, qn240, qn255, qn295, qn352, qn353, qn533, qn999, qn1000, qn1023, qn6561, qn10000, qn20787, qn1000000, qn252645135, qn858993459, qn1000000000, qn1431655765, qj0, qj1, qj2, qj4, qj7, qj8, qj9, qj10, qj30, qj100, qj1000, qj1000000, qj1000000000, qj1442695040888963407, qj6364136223846793005, q_s1, q_s2, q_s3, q_s4, q_s5, iI_add, iI_sub, iI_mul, iI_neg, q_lt, q_le, q_eq, jI_add, jI_sub, jI_mul, jI_neg, jI_of, jI_to, j_le0, j_ge0, j_lt0, j_gt0, j_eq0, q_dvl, qz0, qz1, qz2, qz3, if_pos, if_neg, reduceIte, c_town1 w C c.1, e1, e2]
      · unfold f_X12_who
        simp (disch := omega) only [qn0, qn1, qn2, qn3, qn4, qn5, qn6, qn7, qn8, qn9, qn10, qn11, qn12, qn13, qn14, qn15, qn16, qn17, qn18, qn24, qn30, qn31, qn32, qn33, qn36, qn38, qn40, qn41, qn42, qn43, qn45, qn47, qn48, qn49, qn50, qn51, qn52, qn53, qn57, qn58, qn59, qn60, qn61, qn62, qn63, qn91, qn93, qn97, qn99, qn100, qn103, qn104, qn112, qn113, qn115, qn116, qn118, qn119, qn121, qn124, qn173, qn177, qn240, qn255, qn295, qn352, qn353, qn533, qn999, qn1000, qn1023, qn6561, qn10000, qn20787, qn1000000, qn252645135, qn858993459, qn1000000000, qn1431655765, qj0, qj1, qj2, qj4, qj7, qj8, qj9, qj10, qj30, qj100, qj1000, qj1000000, qj1000000000, qj1442695040888963407, qj6364136223846793005, q_s1, q_s2, q_s3, q_s4, q_s5, iI_add, iI_sub, iI_mul, iI_neg, q_lt, q_le, q_eq, jI_add, jI_sub, jI_mul, jI_neg, jI_of, jI_to, j_le0, j_ge0, j_lt0, j_gt0, j_eq0, q_dvl, qz0, qz1, qz2, qz3, if_pos, if_neg, reduceIte, D3.fo, m_isIn, e3]
