/-! ITEMS read by the model -/
section Items2
variable {b : Nat → Int} {n a r o q0 w0 : Nat} {t : Int} {M : gs_M}
theorem m_here (w : tp_w b n) (K : md_K r o b n M) (ha : a < n) : f_X12_here (md_m M a t) = some (iI (b a)) := by
  have w1 := w.1
  have hck := md_ck K
  have e2 := md_rd (t := t) w K ha
  have e3 := q_a8 (w.2 _ ha)
  unfold f_X12_here
  simp (disch := omega) only [qn0, qn1, qn2, qn3, qn4, qn5, qn6, qn7, qn8, qn9, qn10, qn11, qn12, qn13, qn14, qn15, qn16, qn17, qn18, qn24, qn30, qn31, qn32, qn33, qn36, qn38, qn40, qn41, qn42, qn43, qn45, qn47, qn48, qn49, qn50, qn51, qn52, qn53, qn57, qn58, qn59, qn60, qn61, qn62, qn63, qn91, qn93, qn97, qn99, qn100, qn103, qn104, qn112, qn113, qn115, qn116, qn118, qn119, qn121, qn124, qn173, qn177, qn240, qn255, qn295, qn352, qn353, qn533, qn999, qn1000, qn1023, qn6561, qn10000, qn20787, qn1000000, qn252645135, qn858993459, qn1000000000, qn1431655765, q_s1, q_s2, q_s3, q_s4, q_s5, iI_add, iI_sub, iI_mul, iI_neg, q_lt, q_le, q_eq, qz0, qz1, qz2, qz3, if_pos, if_neg, reduceIte, md_m5, md_m8, md_m9, md_m10, K.2.2.2.1, K.2.2.1, hck, e2, e3]
theorem tp_n2 (w : tp_w b n) (ha : a ≤ n) (c : 48 ≤ tp_l b n a ∧ tp_l b n a ≤ 57) : tp_n b n 2 a = if tp_s b n a + 1 < n ∧ 48 ≤ b (tp_s b n a + 1) ∧ b (tp_s b n a + 1) ≤ 57 then (if tp_s b n a + 2 < n ∧ 48 ≤ b (tp_s b n a + 2) ∧ b (tp_s b n a + 2) ≤ 57 then .inl (tp_s b n a + 2) else .inr (tp_s b n a + 2, 10 * (tp_l b n a - 48) + b (tp_s b n a + 1) - 48)) else .inr (tp_s b n a + 1, tp_l b n a - 48) := by
  have hl := tp_l_b (a := a) w
  have e : tp_d b n 2 (tp_s b n a) 0 = if tp_s b n a + 1 < n ∧ 48 ≤ b (tp_s b n a + 1) ∧ b (tp_s b n a + 1) ≤ 57 then (tp_s b n a + 2, 10 * (tp_l b n a - 48) + b (tp_s b n a + 1) - 48) else (tp_s b n a + 1, tp_l b n a - 48) := by
    simp only [tp_d]
    rw [if_pos (show tp_s b n a < n ∧ 48 ≤ b (tp_s b n a) ∧ b (tp_s b n a) ≤ 57 by omega)]
    by_cases d : tp_s b n a + 1 < n ∧ 48 ≤ b (tp_s b n a + 1) ∧ b (tp_s b n a + 1) ≤ 57
    · rw [if_pos d, if_pos d]
      have : (0 * 10 + b (tp_s b n a) - 48) * 10 + b (tp_s b n a + 1) - 48 = 10 * (tp_l b n a - 48) + b (tp_s b n a + 1) - 48 := by omega
      rw [this]
    · rw [if_neg d, if_neg d]
      have : 0 * 10 + b (tp_s b n a) - 48 = tp_l b n a - 48 := by omega
      rw [this]
  unfold tp_n
  rw [if_pos c, e]
  by_cases d : tp_s b n a + 1 < n ∧ 48 ≤ b (tp_s b n a + 1) ∧ b (tp_s b n a + 1) ≤ 57
  · rw [if_pos d, if_pos d]
  · rw [if_neg d, if_neg d]
    all_goals (try simp only)
    all_goals (try rw [if_neg d])
theorem m_num (w : tp_w b n) (K : md_K r o b n M) (ha : a ≤ n) {x y : Int} (hx : 0 ≤ x ∧ x ≤ 99) (hy : 0 ≤ y ∧ y ≤ 99) : f_X12_number (md_m M a (-1)) (iI x) (iI y) = some (match tp_n b n 2 a with | .inl e => (iI 0, md_m M e e) | .inr q => if q.2 < x ∨ y < q.2 then (iI q.2, md_m M (q.1 - 1) ((q.1 - 1 : Nat) : Int)) else (iI q.2, md_m M q.1 (-1))) := by
  have w1 := w.1
  have h1 := tp_s_b (b := b) ha
  have hl := tp_l_b (a := a) w
  have e1 := m_look (t := -1) w K ha
  have e2 := m_isD (t := -1) w K h1.2
  by_cases c : 48 ≤ tp_l b n a ∧ tp_l b n a ≤ 57
  · rw [tp_n2 w ha c]
    rw [if_pos (by omega)] at e2
    have u1 : gs_up (md_m M (tp_s b n a) (-1)) 147 10 (iI ((tp_s b n a : Nat) + 1)) = md_m M (tp_s b n a + 1) (-1) := md_u10 (tp_s b n a + 1)
    have e3 := m_isD (t := -1) w K (a := tp_s b n a + 1) (by omega)
    by_cases d : tp_s b n a + 1 < n ∧ 48 ≤ b (tp_s b n a + 1) ∧ b (tp_s b n a + 1) ≤ 57
    · rw [if_pos d] at e3 ⊢
      have e4 := m_here (t := -1) w K d.1
      have u2 : gs_up (md_m M (tp_s b n a + 1) (-1)) 147 10 (iI (((tp_s b n a + 1 : Nat) : Int) + 1)) = md_m M (tp_s b n a + 2) (-1) := md_u10 (tp_s b n a + 2)
      have e5 := m_isD (t := -1) w K (a := tp_s b n a + 2) (by omega)
      by_cases d2 : tp_s b n a + 2 < n ∧ 48 ≤ b (tp_s b n a + 2) ∧ b (tp_s b n a + 2) ≤ 57
      · rw [if_pos d2] at e5 ⊢
        have e6 := m_fails (M := M) (a := tp_s b n a + 2)
        unfold f_X12_number
        simp (disch := omega) only [qn0, qn1, qn2, qn3, qn4, qn5, qn6, qn7, qn8, qn9, qn10, qn11, qn12, qn13, qn14, qn15, qn16, qn17, qn18, qn24, qn30, qn31, qn32, qn33, qn36, qn38, qn40, qn41, qn42, qn43, qn45, qn47, qn48, qn49, qn50, qn51, qn52, qn53, qn57, qn58, qn59, qn60, qn61, qn62, qn63, qn91, qn93, qn97, qn99, qn100, qn103, qn104, qn112, qn113, qn115, qn116, qn118, qn119, qn121, qn124, qn173, qn177, qn240, qn255, qn295, qn352, qn353, qn533, qn999, qn1000, qn1023, qn6561, qn10000, qn20787, qn1000000, qn252645135, qn858993459, qn1000000000, qn1431655765, qj0, qj1, qj2, qj4, qj7, qj8, qj9, qj10, qj30, qj100, qj1000, qj1000000, qj1000000000, qj1442695040888963407, qj6364136223846793005, q_s1, q_s2, q_s3, q_s4, q_s5, iI_add, iI_sub, iI_mul, iI_neg, q_lt, q_le, q_eq, jI_add, jI_sub, jI_mul, jI_neg, jI_of, jI_to, j_le0, j_ge0, j_lt0, j_gt0, j_eq0, q_dvl, qz0, qz1, qz2, qz3, if_pos, if_neg, reduceIte, e1, e2, md_m10, u1, e3, e4, u2, e5, e6]
      · rw [if_neg d2] at e5 ⊢
        simp only
        by_cases c2 : 10 * (tp_l b n a - 48) + b (tp_s b n a + 1) - 48 < x ∨ y < 10 * (tp_l b n a - 48) + b (tp_s b n a + 1) - 48
        · rw [if_pos c2]
          have u3 : gs_up (md_m M (tp_s b n a + 2) (-1)) 147 10 (iI (((tp_s b n a + 2 : Nat) : Int) - 1)) = md_m M (tp_s b n a + 2 - 1) (-1) := by
            rw [show ((tp_s b n a + 2 : Nat) : Int) - 1 = ((tp_s b n a + 2 - 1 : Nat) : Int) by omega]
            exact md_u10 _
          have e6 := m_fails (M := M) (a := tp_s b n a + 2 - 1)
          unfold f_X12_number
          simp (disch := omega) only [qn0, qn1, qn2, qn3, qn4, qn5, qn6, qn7, qn8, qn9, qn10, qn11, qn12, qn13, qn14, qn15, qn16, qn17, qn18, qn24, qn30, qn31, qn32, qn33, qn36, qn38, qn40, qn41, qn42, qn43, qn45, qn47, qn48, qn49, qn50, qn51, qn52, qn53, qn57, qn58, qn59, qn60, qn61, qn62, qn63, qn91, qn93, qn97, qn99, qn100, qn103, qn104, qn112, qn113, qn115, qn116, qn118, qn119, qn121, qn124, qn173, qn177, qn240, qn255, qn295, qn352, qn353, qn533, qn999, qn1000, qn1023, qn6561, qn10000, qn20787, qn1000000, qn252645135, qn858993459, qn1000000000, qn1431655765, qj0, qj1, qj2, qj4, qj7, qj8, qj9, qj10, qj30, qj100, qj1000, qj1000000, qj1000000000, qj1442695040888963407, qj6364136223846793005, q_s1, q_s2, q_s3, q_s4, q_s5, iI_add, iI_sub, iI_mul, iI_neg, q_lt, q_le, q_eq, jI_add, jI_sub, jI_mul, jI_neg, jI_of, jI_to, j_le0, j_ge0, j_lt0, j_gt0, j_eq0, q_dvl, qz0, qz1, qz2, qz3, if_pos, if_neg, reduceIte, e1, e2, md_m10, u1, e3, e4, u2, e5, m_isOut, u3, e6]
        · rw [if_neg c2]
          unfold f_X12_number
          simp (disch := omega) only [qn0, qn1, qn2, qn3, qn4, qn5, qn6, qn7, qn8, qn9, qn10, qn11, qn12, qn13, qn14, qn15, qn16, qn17, qn18, qn24, qn30, qn31, qn32, qn33, qn36, qn38, qn40, qn41, qn42, qn43, qn45, qn47, qn48, qn49, qn50, qn51, qn52, qn53, qn57, qn58, qn59, qn60, qn61, qn62, qn63, qn91, qn93, qn97, qn99, qn100, qn103, qn104, qn112, qn113, qn115, qn116, qn118, qn119, qn121, qn124, qn173, qn177, qn240, qn255, qn295, qn352, qn353, qn533, qn999, qn1000, qn1023, qn6561, qn10000, qn20787, qn1000000, qn252645135, qn858993459, qn1000000000, qn1431655765, qj0, qj1, qj2, qj4, qj7, qj8, qj9, qj10, qj30, qj100, qj1000, qj1000000, qj1000000000, qj1442695040888963407, qj6364136223846793005, q_s1, q_s2, q_s3, q_s4, q_s5, iI_add, iI_sub, iI_mul, iI_neg, q_lt, q_le, q_eq, jI_add, jI_sub, jI_mul, jI_neg, jI_of, jI_to, j_le0, j_ge0, j_lt0, j_gt0, j_eq0, q_dvl, qz0, qz1, qz2, qz3, if_pos, if_neg, reduceIte, e1, e2, md_m10, u1, e3, e4, u2, e5, m_isIn]
    · rw [if_neg d] at e3 ⊢
      simp only
      by_cases c2 : tp_l b n a - 48 < x ∨ y < tp_l b n a - 48
      · rw [if_pos c2]
        have u3 : gs_up (md_m M (tp_s b n a + 1) (-1)) 147 10 (iI (((tp_s b n a + 1 : Nat) : Int) - 1)) = md_m M (tp_s b n a + 1 - 1) (-1) := by
          rw [show ((tp_s b n a + 1 : Nat) : Int) - 1 = ((tp_s b n a + 1 - 1 : Nat) : Int) by omega]
          exact md_u10 _
        have e6 := m_fails (M := M) (a := tp_s b n a + 1 - 1)
        unfold f_X12_number
        simp (disch := omega) only [qn0, qn1, qn2, qn3, qn4, qn5, qn6, qn7, qn8, qn9, qn10, qn11, qn12, qn13, qn14, qn15, qn16, qn17, qn18, qn24, qn30, qn31, qn32, qn33, qn36, qn38, qn40, qn41, qn42, qn43, qn45, qn47, qn48, qn49, qn50, qn51, qn52, qn53, qn57, qn58, qn59, qn60, qn61, qn62, qn63, qn91, qn93, qn97, qn99, qn100, qn103, qn104, qn112, qn113, qn115, qn116, qn118, qn119, qn121, qn124, qn173, qn177, qn240, qn255, qn295, qn352, qn353, qn533, qn999, qn1000, qn1023, qn6561, qn10000, qn20787, qn1000000, qn252645135, qn858993459, qn1000000000, qn1431655765, qj0, qj1, qj2, qj4, qj7, qj8, qj9, qj10, qj30, qj100, qj1000, qj1000000, qj1000000000, qj1442695040888963407, qj6364136223846793005, q_s1, q_s2, q_s3, q_s4, q_s5, iI_add, iI_sub, iI_mul, iI_neg, q_lt, q_le, q_eq, jI_add, jI_sub, jI_mul, jI_neg, jI_of, jI_to, j_le0, j_ge0, j_lt0, j_gt0, j_eq0, q_dvl, qz0, qz1, qz2, qz3, if_pos, if_neg, reduceIte, e1, e2, md_m10, u1, e3, m_isOut, u3, e6]
      · rw [if_neg c2]
        unfold f_X12_number
        simp (disch := omega) only [qn0, qn1, qn2, qn3, qn4, qn5, qn6, qn7, qn8, qn9, qn10, qn11, qn12, qn13, qn14, qn15, qn16, qn17, qn18, qn24, qn30, qn31, qn32, qn33, qn36, qn38, qn40, qn41, qn42, qn43, qn45, qn47, qn48, qn49, qn50, qn51, qn52, qn53, qn57, qn58, qn59, qn60, qn61, qn62, qn63, qn91, qn93, qn97, qn99, qn100, qn103, qn104, qn112, qn113, qn115, qn116, qn118, qn119, qn121, qn124, qn173, qn177, qn240, qn255, qn295, qn352, qn353, qn533, qn999, qn1000, qn1023, qn6561, qn10000, qn20787, qn1000000, qn252645135, qn858993459, qn1000000000, qn1431655765, qj0, qj1, qj2, qj4, qj7, qj8, qj9, qj10, qj30, qj100, qj1000, qj1000000, qj1000000000, qj1442695040888963407, qj6364136223846793005, q_s1, q_s2, q_s3, q_s4, q_s5, iI_add, iI_sub, iI_mul, iI_neg, q_lt, q_le, q_eq, jI_add, jI_sub, jI_mul, jI_neg, jI_of, jI_to, j_le0, j_ge0, j_lt0, j_gt0, j_eq0, q_dvl, qz0, qz1, qz2, qz3, if_pos, if_neg, reduceIte, e1, e2, md_m10, u1, e3, m_isIn]
  · rw [if_neg (by omega)] at e2
    have e6 := m_fails (M := M) (a := tp_s b n a)
    have e7 : tp_n b n 2 a = .inl (tp_s b n a) := by
      unfold tp_n
      rw [if_neg c]
    rw [e7]
    unfold f_X12_number
    simp (disch := omega) only [qn0, qn1, qn2, qn3, qn4, qn5, qn6, qn7, qn8, qn9, qn10, qn11, qn12, qn13, qn14, qn15, qn16, qn17, qn18, qn24, qn30, qn31, qn32, qn33, qn36, qn38, qn40, qn41, qn42, qn43, qn45, qn47, qn48, qn49, qn50, qn51, qn52, qn53, qn57, qn58, qn59, qn60, qn61, qn62, qn63, qn91, qn93, qn97, qn99, qn100, qn103, qn104, qn112, qn113, qn115, qn116, qn118, qn119, qn121, qn124, qn173, qn177, qn240, qn255, qn295, qn352, qn353, qn533, qn999, qn1000, qn1023, qn6561, qn10000, qn20787, qn1000000, qn252645135, qn858993459, qn1000000000, qn1431655765, qj0, qj1, qj2, qj4, qj7, qj8, qj9, qj10, qj30, qj100, qj1000, qj1000000, qj1000000000, qj1442695040888963407, qj6364136223846793005, q_s1, q_s2, q_s3, q_s4, q_s5, iI_add, iI_sub, iI_mul, iI_neg, q_lt, q_le, q_eq, jI_add, jI_sub, jI_mul, jI_neg, jI_of, jI_to, j_le0, j_ge0, j_lt0, j_gt0, j_eq0, q_dvl, qz0, qz1, qz2, qz3, if_pos, if_neg, reduceIte, e1, e2, e6]
theorem q_l0 : ∀ k : Nat, k < 3 → f_X12_leastOf (iI 115) (iI k) = some (iI (it_lo0 k)) := by decide +kernel
theorem q_h0 : ∀ k : Nat, k < 3 → f_X12_mostOf (iI 115) (iI k) = some (iI (it_hi0 k)) := by decide +kernel
theorem q_l1 : ∀ k : Nat, k < 5 → f_X12_leastOf (iI 112) (iI k) = some (iI (it_lo1 k)) := by decide +kernel
theorem q_h1 : ∀ k : Nat, k < 5 → f_X12_mostOf (iI 112) (iI k) = some (iI (it_hi1 k)) := by decide +kernel
theorem q_us0 : ∀ k : Nat, k < 3 → f_X12_usual (iI 115) (iI k) = some (iI (it_u0 k)) := by decide +kernel
theorem q_us1 : ∀ k : Nat, k < 5 → f_X12_usual (iI 112) (iI k) = some (iI (it_u1 k)) := by decide +kernel
theorem it_M_id {M : gs_M} {r o l : Nat} {g : Nat → Int} (h : ∀ k, k < l → M r (o + k) = iI (g k)) : it_M M r o l g = M := by
  funext x y
  by_cases c : x = r
  · subst c
    by_cases e : o ≤ y ∧ y < o + l
    · obtain ⟨m, rfl⟩ : ∃ m, y = o + m := ⟨y - o, by omega⟩
      rw [it_M_i (by omega), h m (by omega)]
    · rw [it_M_o (by omega)]
  · rw [it_M_r c]
/-- how the model's reading of ITEMS ends -/
def it_end (b : Nat → Int) (n : Nat) (F : Option gs_M) (M : gs_M) (r o l : Nat) (R : Nat ⊕ (Nat × (Nat → Int))) : Prop := match R with
  | .inr q => F = some (md_m (it_M M r o l q.2) q.1 (-1))
  | .inl e => ∃ g', (∃ a', F = some (md_m (it_M M r o l g') a' e)) ∨ (F = some (md_m (it_M M r o l g') e (-1)) ∧ tp_s b n e = e ∧ tp_l b n e ≠ 59 ∧ tp_l b n e ≠ -1 ∧ e ≤ n)
theorem tp_n_e (w : tp_w b n) (ha : a ≤ n) : ∀ e, tp_n b n 2 a = .inl e → e ≤ n := by
  intro e h
  have h1 := tp_s_b (b := b) ha
  have h2 := tp_d_b (b := b) 2 (tp_s b n a) 0 h1.2
  unfold tp_n at h
  split at h
  · split at h
    · have e := Sum.inl.inj h
      omega
    · cases h
  · have e := Sum.inl.inj h
    omega
theorem m_it0 (w : tp_w b n) (hk : ∀ z, -1 ≤ it_s0 z ∧ it_s0 z < 3) {o : Nat} (ho : o + 3 ≤ 3) : ∀ (d i a f z : Nat) (g : Nat → Int) (M : gs_M), md_K q0 w0 b n M → i + d = 3 + 1 → a ≤ n → d < f → z < 2 ^ 3 → ma_ct z 3 = i → it_end b n (l_X12_readItems_2_45 (iI 115) (iI o) f (iI z) (iI (it_s0 (tp_l b n a))) (md_m (it_M M 153 o 3 g) (tp_s b n a) (-1))) M 153 o 3 (it_go b n it_s0 it_lo0 it_hi0 d a z g) := by
  have w1 := w.1
  intro d
  induction d with
  | zero =>
    intro i a f z g M K hi ha hf hz hc
    have := ma_ct_le z 3
    omega
  | succ d ih =>
    intro i a f z g M K hi ha hf hz hc
    obtain ⟨f, rfl⟩ : ∃ k, f = k + 1 := ⟨f - 1, by omega⟩
    have K1 : md_K q0 w0 b n (it_M M 153 o 3 g) := it_mK K (by decide)
    have h1 := tp_s_b (b := b) ha
    have hl := tp_l_b (a := a) w
    have hs := hk (tp_l b n a)
    simp only [it_go]
    by_cases c : it_s0 (tp_l b n a) = -1
    · rw [if_pos (Or.inl c)]
      have e1 : l_X12_readItems_2_45 (iI 115) (iI o) (f + 1) (iI z) (iI (it_s0 (tp_l b n a))) (md_m (it_M M 153 o 3 g) (tp_s b n a) (-1)) = some (md_m (it_M M 153 o 3 g) (tp_s b n a) (-1)) := by
        rw [c]
        simp only [l_X12_readItems_2_45]
        simp (disch := omega) only [qn0, qn1, qn2, qn3, qn4, qn5, qn6, qn7, qn8, qn9, qn10, qn11, qn12, qn13, qn14, qn15, qn16, qn17, qn18, qn24, qn30, qn31, qn32, qn33, qn36, qn38, qn40, qn41, qn42, qn43, qn45, qn47, qn48, qn49, qn50, qn51, qn52, qn53, qn57, qn58, qn59, qn60, qn61, qn62, qn63, qn91, qn93, qn97, qn99, qn100, qn103, qn104, qn112, qn113, qn115, qn116, qn118, qn119, qn121, qn124, qn173, qn177, qn240, qn255, qn295, qn352, qn353, qn533, qn999, qn1000, qn1023, qn6561, qn10000, qn20787, qn1000000, qn252645135, qn858993459, qn1000000000, qn1431655765, q_s1, q_s2, q_s3, q_s4, q_s5, iI_add, iI_sub, iI_mul, iI_neg, q_lt, q_le, q_eq, qz0, qz1, qz2, qz3, if_pos, if_neg, reduceIte]
      by_cases c2 : tp_l b n a = 59 ∨ tp_l b n a = -1
      · rw [if_pos c2]
        exact e1
      · rw [if_neg c2]
        exact ⟨g, Or.inr ⟨e1, tp_ss ha, by rw [tp_ll ha]; omega, by rw [tp_ll ha]; omega, h1.2⟩⟩
    · obtain ⟨k, hk'⟩ : ∃ k : Nat, it_s0 (tp_l b n a) = k := ⟨(it_s0 (tp_l b n a)).toNat, by omega⟩
      have hsn : tp_s b n a < n := by
        rcases hl with c5 | c5
        · rw [c5.1] at hk'
          have : it_s0 (-1) = -1 := rfl
          omega
        · exact c5.2.2.1
      rw [hk'] at hs ⊢
      rw [Int.toNat_natCast]
      have e2 := m_has (z := z) (i := k) (by omega) (by omega)
      by_cases hb : z.testBit k = true
      · rw [if_pos hb] at e2
        rw [if_pos (Or.inr hb)]
        have c59 : ¬ (tp_l b n a = 59 ∨ tp_l b n a = -1) := by
          intro h
          rcases h with h | h <;> rw [h] at hk'
          · have : it_s0 59 = -1 := rfl
            omega
          · have : it_s0 (-1) = -1 := rfl
            omega
        rw [if_neg c59]
        have e6 := m_fails (M := it_M M 153 o 3 g) (a := tp_s b n a)
        refine ⟨g, Or.inl ⟨tp_s b n a, ?_⟩⟩
        simp only [l_X12_readItems_2_45]
        simp (disch := omega) only [qn0, qn1, qn2, qn3, qn4, qn5, qn6, qn7, qn8, qn9, qn10, qn11, qn12, qn13, qn14, qn15, qn16, qn17, qn18, qn24, qn30, qn31, qn32, qn33, qn36, qn38, qn40, qn41, qn42, qn43, qn45, qn47, qn48, qn49, qn50, qn51, qn52, qn53, qn57, qn58, qn59, qn60, qn61, qn62, qn63, qn91, qn93, qn97, qn99, qn100, qn103, qn104, qn112, qn113, qn115, qn116, qn118, qn119, qn121, qn124, qn173, qn177, qn240, qn255, qn295, qn352, qn353, qn533, qn999, qn1000, qn1023, qn6561, qn10000, qn20787, qn1000000, qn252645135, qn858993459, qn1000000000, qn1431655765, q_s1, q_s2, q_s3, q_s4, q_s5, iI_add, iI_sub, iI_mul, iI_neg, q_lt, q_le, q_eq, qz0, qz1, qz2, qz3, if_pos, if_neg, reduceIte, md_m11, e2, e6]
      · have hb' : z.testBit k = false := by simpa using hb
        rw [if_neg hb] at e2
        rw [if_neg (show ¬ (((k : Nat) : Int) = -1 ∨ z.testBit k = true) from fun h => h.elim (fun h => by omega) hb)]
        have hi5 : i < 3 := by
          have := ma_ct_lt (z := z) (n := 3) (j := k) (by omega) hb'
          omega
        have e3 := q_l0 k (by omega)
        have e4 := q_h0 k (by omega)
        have hlo : 0 ≤ it_lo0 k ∧ it_lo0 k ≤ 99 := by unfold it_lo0; (try split) <;> omega
        have hhi : 0 ≤ it_hi0 k ∧ it_hi0 k ≤ 99 := by unfold it_hi0; (try split) <;> omega
        have u1 : gs_up (md_m (it_M M 153 o 3 g) (tp_s b n a) (-1)) 147 10 (iI ((tp_s b n a : Nat) + 1)) = md_m (it_M M 153 o 3 g) (tp_s b n a + 1) (-1) := md_u10 (tp_s b n a + 1)
        have e5 := m_num w K1 (a := tp_s b n a + 1) (by omega) (x := it_lo0 k) (y := it_hi0 k) hlo hhi
        have hbn := fun q => tp_n_b w (a := tp_s b n a + 1) (by omega) (q := q)
        have wr : ∀ (p : Nat) (t v : Int), gs_wr (md_m (it_M M 153 o 3 g) p t) 153 3 (iI (o + k)) (iI v) = some (md_m (it_M M 153 o 3 (ma_su g k v)) p t) := fun p t v => by
          rw [q_wrn (o + k) (by omega) (by omega) (by decide), md_ur _ (Or.inl (by decide)), it_M_u (by omega)]
        have stop : ∀ (f : Nat) (p : Nat) (t : Int) (g' : Nat → Int) (y : Int32), 0 ≤ t ∧ t ≤ 1000 → l_X12_readItems_2_45 (iI 115) (iI o) (f + 1) y (iI k) (md_m (it_M M 153 o 3 g') p t) = some (md_m (it_M M 153 o 3 g') p t) := fun f p t g' y ht => by
          simp only [l_X12_readItems_2_45]
          simp (disch := omega) only [qn0, qn1, qn2, qn3, qn4, qn5, qn6, qn7, qn8, qn9, qn10, qn11, qn12, qn13, qn14, qn15, qn16, qn17, qn18, qn24, qn30, qn31, qn32, qn33, qn36, qn38, qn40, qn41, qn42, qn43, qn45, qn47, qn48, qn49, qn50, qn51, qn52, qn53, qn57, qn58, qn59, qn60, qn61, qn62, qn63, qn91, qn93, qn97, qn99, qn100, qn103, qn104, qn112, qn113, qn115, qn116, qn118, qn119, qn121, qn124, qn173, qn177, qn240, qn255, qn295, qn352, qn353, qn533, qn999, qn1000, qn1023, qn6561, qn10000, qn20787, qn1000000, qn252645135, qn858993459, qn1000000000, qn1431655765, q_s1, q_s2, q_s3, q_s4, q_s5, iI_add, iI_sub, iI_mul, iI_neg, q_lt, q_le, q_eq, qz0, qz1, qz2, qz3, if_pos, if_neg, reduceIte, md_m11]
        obtain ⟨f', rfl⟩ : ∃ k, f = k + 1 := ⟨f - 1, by omega⟩
        have hbe := tp_n_e w (a := tp_s b n a + 1) (by omega)
        revert e5 hbn hbe
        generalize tp_n b n 2 (tp_s b n a + 1) = R
        intro e5 hbn hbe
        match R, e5, hbn, hbe with
        | .inl e, e5, hbn, hbe =>
          have hbe' := hbe e rfl
          simp only at e5 ⊢
          refine ⟨ma_su g k 0, Or.inl ⟨e, ?_⟩⟩
          have e9 := stop f' e e (ma_su g k 0) (iI z ||| (iI 1 <<< (iI k &&& iI 31))) (by omega)
          simp only [l_X12_readItems_2_45]
          simp only [l_X12_readItems_2_45] at e9
          simp (disch := omega) only [qn0, qn1, qn2, qn3, qn4, qn5, qn6, qn7, qn8, qn9, qn10, qn11, qn12, qn13, qn14, qn15, qn16, qn17, qn18, qn24, qn30, qn31, qn32, qn33, qn36, qn38, qn40, qn41, qn42, qn43, qn45, qn47, qn48, qn49, qn50, qn51, qn52, qn53, qn57, qn58, qn59, qn60, qn61, qn62, qn63, qn91, qn93, qn97, qn99, qn100, qn103, qn104, qn112, qn113, qn115, qn116, qn118, qn119, qn121, qn124, qn173, qn177, qn240, qn255, qn295, qn352, qn353, qn533, qn999, qn1000, qn1023, qn6561, qn10000, qn20787, qn1000000, qn252645135, qn858993459, qn1000000000, qn1431655765, q_s1, q_s2, q_s3, q_s4, q_s5, iI_add, iI_sub, iI_mul, iI_neg, q_lt, q_le, q_eq, qz0, qz1, qz2, qz3, if_pos, if_neg, reduceIte, md_m11, md_m10, e2, u1, e3, e4, e5, wr]
        | .inr (p, v), e5, hbn, hbe =>
          have hb5 := hbn (p, v) rfl
          simp only at e5 hb5 ⊢
          by_cases c6 : v < it_lo0 k ∨ it_hi0 k < v
          · rw [if_pos c6] at e5 ⊢
            refine ⟨ma_su g k v, Or.inl ⟨p - 1, ?_⟩⟩
            simp only [l_X12_readItems_2_45]
            simp (disch := omega) only [qn0, qn1, qn2, qn3, qn4, qn5, qn6, qn7, qn8, qn9, qn10, qn11, qn12, qn13, qn14, qn15, qn16, qn17, qn18, qn24, qn30, qn31, qn32, qn33, qn36, qn38, qn40, qn41, qn42, qn43, qn45, qn47, qn48, qn49, qn50, qn51, qn52, qn53, qn57, qn58, qn59, qn60, qn61, qn62, qn63, qn91, qn93, qn97, qn99, qn100, qn103, qn104, qn112, qn113, qn115, qn116, qn118, qn119, qn121, qn124, qn173, qn177, qn240, qn255, qn295, qn352, qn353, qn533, qn999, qn1000, qn1023, qn6561, qn10000, qn20787, qn1000000, qn252645135, qn858993459, qn1000000000, qn1431655765, q_s1, q_s2, q_s3, q_s4, q_s5, iI_add, iI_sub, iI_mul, iI_neg, q_lt, q_le, q_eq, qz0, qz1, qz2, qz3, if_pos, if_neg, reduceIte, md_m11, md_m10, e2, u1, e3, e4, e5, wr]
          · rw [if_neg c6] at e5 ⊢
            have K2 : md_K q0 w0 b n (it_M M 153 o 3 (ma_su g k v)) := it_mK K (by decide)
            have e7 := m_look (t := -1) w K2 (a := p) (by omega)
            have hl2 := tp_l_b (a := p) w
            have e8 := m_sp0 (z := tp_l b n p) (by omega)
            have hz2 : z ||| 2 ^ k < 2 ^ 3 := Nat.or_lt_two_pow hz (Nat.pow_lt_pow_right (by decide) (by omega))
            have hc2 : ma_ct (z ||| 2 ^ k) 3 = i + 1 := by rw [ma_ct_o hb', hc, if_pos (by omega)]
            have e10 := ih (i + 1) p (f' + 1) (z ||| 2 ^ k) (ma_su g k v) M K (by omega) (by omega) (by omega) hz2 hc2
            have e11 : l_X12_readItems_2_45 (iI 115) (iI o) (f' + 1 + 1) (iI z) (iI k) (md_m (it_M M 153 o 3 g) (tp_s b n a) (-1)) = l_X12_readItems_2_45 (iI 115) (iI o) (f' + 1) (iI ((z ||| 2 ^ k : Nat) : Int)) (iI (it_s0 (tp_l b n p))) (md_m (it_M M 153 o 3 (ma_su g k v)) (tp_s b n p) (-1)) := by
              rw [l_X12_readItems_2_45]
              simp (disch := omega) only [qn0, qn1, qn2, qn3, qn4, qn5, qn6, qn7, qn8, qn9, qn10, qn11, qn12, qn13, qn14, qn15, qn16, qn17, qn18, qn24, qn30, qn31, qn32, qn33, qn36, qn38, qn40, qn41, qn42, qn43, qn45, qn47, qn48, qn49, qn50, qn51, qn52, qn53, qn57, qn58, qn59, qn60, qn61, qn62, qn63, qn91, qn93, qn97, qn99, qn100, qn103, qn104, qn112, qn113, qn115, qn116, qn118, qn119, qn121, qn124, qn173, qn177, qn240, qn255, qn295, qn352, qn353, qn533, qn999, qn1000, qn1023, qn6561, qn10000, qn20787, qn1000000, qn252645135, qn858993459, qn1000000000, qn1431655765, q_s1, q_s2, q_s3, q_s4, q_s5, iI_add, iI_sub, iI_mul, iI_neg, q_lt, q_le, q_eq, qz0, qz1, qz2, qz3, if_pos, if_neg, reduceIte, md_m11, md_m10, e2, u1, e3, e4, e5, wr, e7, e8, b_sh, b_or]
            rw [e11]
            exact e10
theorem m_us0 (w : tp_w b n) {o : Nat} (ho : o + 3 ≤ 3) (M : gs_M) (a : Nat) (t : Int) : ∃ j, l_X12_readItems_2_3 (iI 115) (iI o) gs_FU (iI 0) (md_m M a t) = some (j, md_m (it_M M 153 o 3 it_u0) a t) := by
  have hln : gs_ln 0 = iI 3 := rfl
  obtain ⟨r, e, N1, hN, rfl⟩ := ma_up0 (fun f i (k : gs_M) => l_X12_readItems_2_3 (iI 115) (iI o) f i (md_m k a t)) 3
    (fun i k => (∀ j, j < i → k 153 (o + j) = iI (it_u0 j)) ∧ ∀ x y, (x ≠ 153 ∨ y < o ∨ o + 3 ≤ y) → k x y = M x y)
    (fun r => ∃ N1, ((∀ j, j < 3 → N1 153 (o + j) = iI (it_u0 j)) ∧ ∀ x y, (x ≠ 153 ∨ y < o ∨ o + 3 ≤ y) → N1 x y = M x y) ∧ r = (iI (3 : Nat), md_m N1 a t)) M (by decide) ⟨fun j hj => by omega, fun _ _ _ => rfl⟩
    (by
      rintro f i k hi ⟨h1, h2⟩
      left
      have e1 := q_us0 i (by omega)
      have e4 : ∀ v, gs_wr (md_m k a t) 153 3 (iI (o + i)) v = some (md_m (gs_up k 153 (o + i) v) a t) := fun v => by
        rw [q_wrn (o + i) (by omega) (by omega) (by decide), md_ur _ (Or.inl (by decide))]
      refine ⟨gs_up k 153 (o + i) (iI (it_u0 i)), ?_, fun j hj => ?_, fun x y hxy => ?_⟩
      · simp only [l_X12_readItems_2_3]
        rw [hln]
        simp (disch := omega) only [qn0, qn1, qn2, qn3, qn4, qn5, qn6, qn7, qn8, qn9, qn10, qn11, qn12, qn13, qn14, qn15, qn16, qn17, qn18, qn24, qn30, qn31, qn32, qn33, qn36, qn38, qn40, qn41, qn42, qn43, qn45, qn47, qn48, qn49, qn50, qn51, qn52, qn53, qn57, qn58, qn59, qn60, qn61, qn62, qn63, qn91, qn93, qn97, qn99, qn100, qn103, qn104, qn112, qn113, qn115, qn116, qn118, qn119, qn121, qn124, qn173, qn177, qn240, qn255, qn295, qn352, qn353, qn533, qn999, qn1000, qn1023, qn6561, qn10000, qn20787, qn1000000, qn252645135, qn858993459, qn1000000000, qn1431655765, q_s1, q_s2, q_s3, q_s4, q_s5, iI_add, iI_sub, iI_mul, iI_neg, q_lt, q_le, q_eq, qz0, qz1, qz2, qz3, if_pos, if_neg, reduceIte, e1, e4]
      · by_cases c : j = i
        · subst c
          rw [gs_up_eq]
        · rw [ma_cell_ne _ _ _ _ _ _ (by omega)]
          exact h1 j (by omega)
      · rw [ma_cell_ne _ _ _ _ _ _ (by omega)]
        exact h2 x y hxy)
    (by
      rintro f k ⟨h1, h2⟩
      refine ⟨_, ?_, k, ⟨h1, h2⟩, rfl⟩
      simp only [l_X12_readItems_2_3]
      rw [hln]
      simp (disch := omega) only [qn0, qn1, qn2, qn3, qn4, qn5, qn6, qn7, qn8, qn9, qn10, qn11, qn12, qn13, qn14, qn15, qn16, qn17, qn18, qn24, qn30, qn31, qn32, qn33, qn36, qn38, qn40, qn41, qn42, qn43, qn45, qn47, qn48, qn49, qn50, qn51, qn52, qn53, qn57, qn58, qn59, qn60, qn61, qn62, qn63, qn91, qn93, qn97, qn99, qn100, qn103, qn104, qn112, qn113, qn115, qn116, qn118, qn119, qn121, qn124, qn173, qn177, qn240, qn255, qn295, qn352, qn353, qn533, qn999, qn1000, qn1023, qn6561, qn10000, qn20787, qn1000000, qn252645135, qn858993459, qn1000000000, qn1431655765, q_s1, q_s2, q_s3, q_s4, q_s5, iI_add, iI_sub, iI_mul, iI_neg, q_lt, q_le, q_eq, qz0, qz1, qz2, qz3, if_pos, if_neg, reduceIte])
  refine ⟨iI (3 : Nat), e.trans ?_⟩
  have : N1 = it_M M 153 o 3 it_u0 := by
    funext x y
    by_cases c : x = 153
    · subst c
      by_cases e : o ≤ y ∧ y < o + 3
      · obtain ⟨m, rfl⟩ : ∃ m, y = o + m := ⟨y - o, by omega⟩
        rw [it_M_i (by omega), hN.1 m (by omega)]
      · rw [it_M_o (by omega), hN.2 _ _ (by omega)]
    · rw [it_M_r c, hN.2 _ _ (Or.inl c)]
  rw [this]
theorem m_items0 (w : tp_w b n) (hk : ∀ z, -1 ≤ it_s0 z ∧ it_s0 z < 3) (K : md_K q0 w0 b n M) {o : Nat} (ho : o + 3 ≤ 3) (ha : a ≤ n) : it_end b n (f_X12_readItems_2 (md_m M a (-1)) (iI 115) (iI o)) M 153 o 3 (it_go b n it_s0 it_lo0 it_hi0 (3 + 1) a 0 it_u0) := by
  obtain ⟨j, e1⟩ := m_us0 w ho M a (-1)
  have K1 : md_K q0 w0 b n (it_M M 153 o 3 it_u0) := it_mK K (by decide)
  have e2 := m_look (t := -1) w K1 ha
  have hl := tp_l_b (a := a) w
  have e3 := m_sp0 (z := tp_l b n a) (by omega)
  have e4 := m_it0 w hk ho (3 + 1) 0 a gs_FU 0 it_u0 M K (by omega) ha (by decide) (by decide) (by decide)
  have e5 : f_X12_readItems_2 (md_m M a (-1)) (iI 115) (iI o) = l_X12_readItems_2_45 (iI 115) (iI o) gs_FU (iI ((0 : Nat) : Int)) (iI (it_s0 (tp_l b n a))) (md_m (it_M M 153 o 3 it_u0) (tp_s b n a) (-1)) := by
    unfold f_X12_readItems_2
    simp (disch := omega) only [qn0, qn1, qn2, qn3, qn4, qn5, qn6, qn7, qn8, qn9, qn10, qn11, qn12, qn13, qn14, qn15, qn16, qn17, qn18, qn24, qn30, qn31, qn32, qn33, qn36, qn38, qn40, qn41, qn42, qn43, qn45, qn47, qn48, qn49, qn50, qn51, qn52, qn53, qn57, qn58, qn59, qn60, qn61, qn62, qn63, qn91, qn93, qn97, qn99, qn100, qn103, qn104, qn112, qn113, qn115, qn116, qn118, qn119, qn121, qn124, qn173, qn177, qn240, qn255, qn295, qn352, qn353, qn533, qn999, qn1000, qn1023, qn6561, qn10000, qn20787, qn1000000, qn252645135, qn858993459, qn1000000000, qn1431655765, q_s1, q_s2, q_s3, q_s4, q_s5, iI_add, iI_sub, iI_mul, iI_neg, q_lt, q_le, q_eq, qz0, qz1, qz2, qz3, if_pos, if_neg, reduceIte, e1, e2, e3]
    rfl
  rw [e5]
  exact e4
theorem m_it1 (w : tp_w b n) (hk : ∀ z, -1 ≤ it_s1 z ∧ it_s1 z < 5) {o : Nat} (ho : o + 5 ≤ 40) : ∀ (d i a f z : Nat) (g : Nat → Int) (M : gs_M), md_K q0 w0 b n M → i + d = 5 + 1 → a ≤ n → d < f → z < 2 ^ 5 → ma_ct z 5 = i → it_end b n (l_X12_readItems_45 (iI 112) (iI o) f (iI z) (iI (it_s1 (tp_l b n a))) (md_m (it_M M 155 o 5 g) (tp_s b n a) (-1))) M 155 o 5 (it_go b n it_s1 it_lo1 it_hi1 d a z g) := by
  have w1 := w.1
  intro d
  induction d with
  | zero =>
    intro i a f z g M K hi ha hf hz hc
    have := ma_ct_le z 5
    omega
  | succ d ih =>
    intro i a f z g M K hi ha hf hz hc
    obtain ⟨f, rfl⟩ : ∃ k, f = k + 1 := ⟨f - 1, by omega⟩
    have K1 : md_K q0 w0 b n (it_M M 155 o 5 g) := it_mK K (by decide)
    have h1 := tp_s_b (b := b) ha
    have hl := tp_l_b (a := a) w
    have hs := hk (tp_l b n a)
    simp only [it_go]
    by_cases c : it_s1 (tp_l b n a) = -1
    · rw [if_pos (Or.inl c)]
      have e1 : l_X12_readItems_45 (iI 112) (iI o) (f + 1) (iI z) (iI (it_s1 (tp_l b n a))) (md_m (it_M M 155 o 5 g) (tp_s b n a) (-1)) = some (md_m (it_M M 155 o 5 g) (tp_s b n a) (-1)) := by
        rw [c]
        simp only [l_X12_readItems_45]
        simp (disch := omega) only [qn0, qn1, qn2, qn3, qn4, qn5, qn6, qn7, qn8, qn9, qn10, qn11, qn12, qn13, qn14, qn15, qn16, qn17, qn18, qn24, qn30, qn31, qn32, qn33, qn36, qn38, qn40, qn41, qn42, qn43, qn45, qn47, qn48, qn49, qn50, qn51, qn52, qn53, qn57, qn58, qn59, qn60, qn61, qn62, qn63, qn91, qn93, qn97, qn99, qn100, qn103, qn104, qn112, qn113, qn115, qn116, qn118, qn119, qn121, qn124, qn173, qn177, qn240, qn255, qn295, qn352, qn353, qn533, qn999, qn1000, qn1023, qn6561, qn10000, qn20787, qn1000000, qn252645135, qn858993459, qn1000000000, qn1431655765, q_s1, q_s2, q_s3, q_s4, q_s5, iI_add, iI_sub, iI_mul, iI_neg, q_lt, q_le, q_eq, qz0, qz1, qz2, qz3, if_pos, if_neg, reduceIte]
      by_cases c2 : tp_l b n a = 59 ∨ tp_l b n a = -1
      · rw [if_pos c2]
        exact e1
      · rw [if_neg c2]
        exact ⟨g, Or.inr ⟨e1, tp_ss ha, by rw [tp_ll ha]; omega, by rw [tp_ll ha]; omega, h1.2⟩⟩
    · obtain ⟨k, hk'⟩ : ∃ k : Nat, it_s1 (tp_l b n a) = k := ⟨(it_s1 (tp_l b n a)).toNat, by omega⟩
      have hsn : tp_s b n a < n := by
        rcases hl with c5 | c5
        · rw [c5.1] at hk'
          have : it_s1 (-1) = -1 := rfl
          omega
        · exact c5.2.2.1
      rw [hk'] at hs ⊢
      rw [Int.toNat_natCast]
      have e2 := m_has (z := z) (i := k) (by omega) (by omega)
      by_cases hb : z.testBit k = true
      · rw [if_pos hb] at e2
        rw [if_pos (Or.inr hb)]
        have c59 : ¬ (tp_l b n a = 59 ∨ tp_l b n a = -1) := by
          intro h
          rcases h with h | h <;> rw [h] at hk'
          · have : it_s1 59 = -1 := rfl
            omega
          · have : it_s1 (-1) = -1 := rfl
            omega
        rw [if_neg c59]
        have e6 := m_fails (M := it_M M 155 o 5 g) (a := tp_s b n a)
        refine ⟨g, Or.inl ⟨tp_s b n a, ?_⟩⟩
        simp only [l_X12_readItems_45]
        simp (disch := omega) only [qn0, qn1, qn2, qn3, qn4, qn5, qn6, qn7, qn8, qn9, qn10, qn11, qn12, qn13, qn14, qn15, qn16, qn17, qn18, qn24, qn30, qn31, qn32, qn33, qn36, qn38, qn40, qn41, qn42, qn43, qn45, qn47, qn48, qn49, qn50, qn51, qn52, qn53, qn57, qn58, qn59, qn60, qn61, qn62, qn63, qn91, qn93, qn97, qn99, qn100, qn103, qn104, qn112, qn113, qn115, qn116, qn118, qn119, qn121, qn124, qn173, qn177, qn240, qn255, qn295, qn352, qn353, qn533, qn999, qn1000, qn1023, qn6561, qn10000, qn20787, qn1000000, qn252645135, qn858993459, qn1000000000, qn1431655765, q_s1, q_s2, q_s3, q_s4, q_s5, iI_add, iI_sub, iI_mul, iI_neg, q_lt, q_le, q_eq, qz0, qz1, qz2, qz3, if_pos, if_neg, reduceIte, md_m11, e2, e6]
      · have hb' : z.testBit k = false := by simpa using hb
        rw [if_neg hb] at e2
        rw [if_neg (show ¬ (((k : Nat) : Int) = -1 ∨ z.testBit k = true) from fun h => h.elim (fun h => by omega) hb)]
        have hi5 : i < 5 := by
          have := ma_ct_lt (z := z) (n := 5) (j := k) (by omega) hb'
          omega
        have e3 := q_l1 k (by omega)
        have e4 := q_h1 k (by omega)
        have hlo : 0 ≤ it_lo1 k ∧ it_lo1 k ≤ 99 := by unfold it_lo1; (try split) <;> omega
        have hhi : 0 ≤ it_hi1 k ∧ it_hi1 k ≤ 99 := by unfold it_hi1; (try split) <;> omega
        have u1 : gs_up (md_m (it_M M 155 o 5 g) (tp_s b n a) (-1)) 147 10 (iI ((tp_s b n a : Nat) + 1)) = md_m (it_M M 155 o 5 g) (tp_s b n a + 1) (-1) := md_u10 (tp_s b n a + 1)
        have e5 := m_num w K1 (a := tp_s b n a + 1) (by omega) (x := it_lo1 k) (y := it_hi1 k) hlo hhi
        have hbn := fun q => tp_n_b w (a := tp_s b n a + 1) (by omega) (q := q)
        have wr : ∀ (p : Nat) (t v : Int), gs_wr (md_m (it_M M 155 o 5 g) p t) 155 40 (iI (o + k)) (iI v) = some (md_m (it_M M 155 o 5 (ma_su g k v)) p t) := fun p t v => by
          rw [q_wrn (o + k) (by omega) (by omega) (by decide), md_ur _ (Or.inl (by decide)), it_M_u (by omega)]
        have stop : ∀ (f : Nat) (p : Nat) (t : Int) (g' : Nat → Int) (y : Int32), 0 ≤ t ∧ t ≤ 1000 → l_X12_readItems_45 (iI 112) (iI o) (f + 1) y (iI k) (md_m (it_M M 155 o 5 g') p t) = some (md_m (it_M M 155 o 5 g') p t) := fun f p t g' y ht => by
          simp only [l_X12_readItems_45]
          simp (disch := omega) only [qn0, qn1, qn2, qn3, qn4, qn5, qn6, qn7, qn8, qn9, qn10, qn11, qn12, qn13, qn14, qn15, qn16, qn17, qn18, qn24, qn30, qn31, qn32, qn33, qn36, qn38, qn40, qn41, qn42, qn43, qn45, qn47, qn48, qn49, qn50, qn51, qn52, qn53, qn57, qn58, qn59, qn60, qn61, qn62, qn63, qn91, qn93, qn97, qn99, qn100, qn103, qn104, qn112, qn113, qn115, qn116, qn118, qn119, qn121, qn124, qn173, qn177, qn240, qn255, qn295, qn352, qn353, qn533, qn999, qn1000, qn1023, qn6561, qn10000, qn20787, qn1000000, qn252645135, qn858993459, qn1000000000, qn1431655765, q_s1, q_s2, q_s3, q_s4, q_s5, iI_add, iI_sub, iI_mul, iI_neg, q_lt, q_le, q_eq, qz0, qz1, qz2, qz3, if_pos, if_neg, reduceIte, md_m11]
        obtain ⟨f', rfl⟩ : ∃ k, f = k + 1 := ⟨f - 1, by omega⟩
        have hbe := tp_n_e w (a := tp_s b n a + 1) (by omega)
        revert e5 hbn hbe
        generalize tp_n b n 2 (tp_s b n a + 1) = R
        intro e5 hbn hbe
        match R, e5, hbn, hbe with
        | .inl e, e5, hbn, hbe =>
          have hbe' := hbe e rfl
          simp only at e5 ⊢
          refine ⟨ma_su g k 0, Or.inl ⟨e, ?_⟩⟩
          have e9 := stop f' e e (ma_su g k 0) (iI z ||| (iI 1 <<< (iI k &&& iI 31))) (by omega)
          simp only [l_X12_readItems_45]
          simp only [l_X12_readItems_45] at e9
          simp (disch := omega) only [qn0, qn1, qn2, qn3, qn4, qn5, qn6, qn7, qn8, qn9, qn10, qn11, qn12, qn13, qn14, qn15, qn16, qn17, qn18, qn24, qn30, qn31, qn32, qn33, qn36, qn38, qn40, qn41, qn42, qn43, qn45, qn47, qn48, qn49, qn50, qn51, qn52, qn53, qn57, qn58, qn59, qn60, qn61, qn62, qn63, qn91, qn93, qn97, qn99, qn100, qn103, qn104, qn112, qn113, qn115, qn116, qn118, qn119, qn121, qn124, qn173, qn177, qn240, qn255, qn295, qn352, qn353, qn533, qn999, qn1000, qn1023, qn6561, qn10000, qn20787, qn1000000, qn252645135, qn858993459, qn1000000000, qn1431655765, q_s1, q_s2, q_s3, q_s4, q_s5, iI_add, iI_sub, iI_mul, iI_neg, q_lt, q_le, q_eq, qz0, qz1, qz2, qz3, if_pos, if_neg, reduceIte, md_m11, md_m10, e2, u1, e3, e4, e5, wr]
        | .inr (p, v), e5, hbn, hbe =>
          have hb5 := hbn (p, v) rfl
          simp only at e5 hb5 ⊢
          by_cases c6 : v < it_lo1 k ∨ it_hi1 k < v
          · rw [if_pos c6] at e5 ⊢
            refine ⟨ma_su g k v, Or.inl ⟨p - 1, ?_⟩⟩
            simp only [l_X12_readItems_45]
            simp (disch := omega) only [qn0, qn1, qn2, qn3, qn4, qn5, qn6, qn7, qn8, qn9, qn10, qn11, qn12, qn13, qn14, qn15, qn16, qn17, qn18, qn24, qn30, qn31, qn32, qn33, qn36, qn38, qn40, qn41, qn42, qn43, qn45, qn47, qn48, qn49, qn50, qn51, qn52, qn53, qn57, qn58, qn59, qn60, qn61, qn62, qn63, qn91, qn93, qn97, qn99, qn100, qn103, qn104, qn112, qn113, qn115, qn116, qn118, qn119, qn121, qn124, qn173, qn177, qn240, qn255, qn295, qn352, qn353, qn533, qn999, qn1000, qn1023, qn6561, qn10000, qn20787, qn1000000, qn252645135, qn858993459, qn1000000000, qn1431655765, q_s1, q_s2, q_s3, q_s4, q_s5, iI_add, iI_sub, iI_mul, iI_neg, q_lt, q_le, q_eq, qz0, qz1, qz2, qz3, if_pos, if_neg, reduceIte, md_m11, md_m10, e2, u1, e3, e4, e5, wr]
          · rw [if_neg c6] at e5 ⊢
            have K2 : md_K q0 w0 b n (it_M M 155 o 5 (ma_su g k v)) := it_mK K (by decide)
            have e7 := m_look (t := -1) w K2 (a := p) (by omega)
            have hl2 := tp_l_b (a := p) w
            have e8 := m_sp1 (z := tp_l b n p) (by omega)
            have hz2 : z ||| 2 ^ k < 2 ^ 5 := Nat.or_lt_two_pow hz (Nat.pow_lt_pow_right (by decide) (by omega))
            have hc2 : ma_ct (z ||| 2 ^ k) 5 = i + 1 := by rw [ma_ct_o hb', hc, if_pos (by omega)]
            have e10 := ih (i + 1) p (f' + 1) (z ||| 2 ^ k) (ma_su g k v) M K (by omega) (by omega) (by omega) hz2 hc2
            have e11 : l_X12_readItems_45 (iI 112) (iI o) (f' + 1 + 1) (iI z) (iI k) (md_m (it_M M 155 o 5 g) (tp_s b n a) (-1)) = l_X12_readItems_45 (iI 112) (iI o) (f' + 1) (iI ((z ||| 2 ^ k : Nat) : Int)) (iI (it_s1 (tp_l b n p))) (md_m (it_M M 155 o 5 (ma_su g k v)) (tp_s b n p) (-1)) := by
              rw [l_X12_readItems_45]
              simp (disch := omega) only [qn0, qn1, qn2, qn3, qn4, qn5, qn6, qn7, qn8, qn9, qn10, qn11, qn12, qn13, qn14, qn15, qn16, qn17, qn18, qn24, qn30, qn31, qn32, qn33, qn36, qn38, qn40, qn41, qn42, qn43, qn45, qn47, qn48, qn49, qn50, qn51, qn52, qn53, qn57, qn58, qn59, qn60, qn61, qn62, qn63, qn91, qn93, qn97, qn99, qn100, qn103, qn104, qn112, qn113, qn115, qn116, qn118, qn119, qn121, qn124, qn173, qn177, qn240, qn255, qn295, qn352, qn353, qn533, qn999, qn1000, qn1023, qn6561, qn10000, qn20787, qn1000000, qn252645135, qn858993459, qn1000000000, qn1431655765, q_s1, q_s2, q_s3, q_s4, q_s5, iI_add, iI_sub, iI_mul, iI_neg, q_lt, q_le, q_eq, qz0, qz1, qz2, qz3, if_pos, if_neg, reduceIte, md_m11, md_m10, e2, u1, e3, e4, e5, wr, e7, e8, b_sh, b_or]
            rw [e11]
            exact e10
theorem m_us1 (w : tp_w b n) {o : Nat} (ho : o + 5 ≤ 40) (M : gs_M) (a : Nat) (t : Int) : ∃ j, l_X12_readItems_3 (iI 112) (iI o) gs_FU (iI 0) (md_m M a t) = some (j, md_m (it_M M 155 o 5 it_u1) a t) := by
  have hln : gs_ln 1 = iI 5 := rfl
  obtain ⟨r, e, N1, hN, rfl⟩ := ma_up0 (fun f i (k : gs_M) => l_X12_readItems_3 (iI 112) (iI o) f i (md_m k a t)) 5
    (fun i k => (∀ j, j < i → k 155 (o + j) = iI (it_u1 j)) ∧ ∀ x y, (x ≠ 155 ∨ y < o ∨ o + 5 ≤ y) → k x y = M x y)
    (fun r => ∃ N1, ((∀ j, j < 5 → N1 155 (o + j) = iI (it_u1 j)) ∧ ∀ x y, (x ≠ 155 ∨ y < o ∨ o + 5 ≤ y) → N1 x y = M x y) ∧ r = (iI (5 : Nat), md_m N1 a t)) M (by decide) ⟨fun j hj => by omega, fun _ _ _ => rfl⟩
    (by
      rintro f i k hi ⟨h1, h2⟩
      left
      have e1 := q_us1 i (by omega)
      have e4 : ∀ v, gs_wr (md_m k a t) 155 40 (iI (o + i)) v = some (md_m (gs_up k 155 (o + i) v) a t) := fun v => by
        rw [q_wrn (o + i) (by omega) (by omega) (by decide), md_ur _ (Or.inl (by decide))]
      refine ⟨gs_up k 155 (o + i) (iI (it_u1 i)), ?_, fun j hj => ?_, fun x y hxy => ?_⟩
      · simp only [l_X12_readItems_3]
        rw [hln]
        simp (disch := omega) only [qn0, qn1, qn2, qn3, qn4, qn5, qn6, qn7, qn8, qn9, qn10, qn11, qn12, qn13, qn14, qn15, qn16, qn17, qn18, qn24, qn30, qn31, qn32, qn33, qn36, qn38, qn40, qn41, qn42, qn43, qn45, qn47, qn48, qn49, qn50, qn51, qn52, qn53, qn57, qn58, qn59, qn60, qn61, qn62, qn63, qn91, qn93, qn97, qn99, qn100, qn103, qn104, qn112, qn113, qn115, qn116, qn118, qn119, qn121, qn124, qn173, qn177, qn240, qn255, qn295, qn352, qn353, qn533, qn999, qn1000, qn1023, qn6561, qn10000, qn20787, qn1000000, qn252645135, qn858993459, qn1000000000, qn1431655765, q_s1, q_s2, q_s3, q_s4, q_s5, iI_add, iI_sub, iI_mul, iI_neg, q_lt, q_le, q_eq, qz0, qz1, qz2, qz3, if_pos, if_neg, reduceIte, e1, e4]
      · by_cases c : j = i
        · subst c
          rw [gs_up_eq]
        · rw [ma_cell_ne _ _ _ _ _ _ (by omega)]
          exact h1 j (by omega)
      · rw [ma_cell_ne _ _ _ _ _ _ (by omega)]
        exact h2 x y hxy)
    (by
      rintro f k ⟨h1, h2⟩
      refine ⟨_, ?_, k, ⟨h1, h2⟩, rfl⟩
      simp only [l_X12_readItems_3]
      rw [hln]
      simp (disch := omega) only [qn0, qn1, qn2, qn3, qn4, qn5, qn6, qn7, qn8, qn9, qn10, qn11, qn12, qn13, qn14, qn15, qn16, qn17, qn18, qn24, qn30, qn31, qn32, qn33, qn36, qn38, qn40, qn41, qn42, qn43, qn45, qn47, qn48, qn49, qn50, qn51, qn52, qn53, qn57, qn58, qn59, qn60, qn61, qn62, qn63, qn91, qn93, qn97, qn99, qn100, qn103, qn104, qn112, qn113, qn115, qn116, qn118, qn119, qn121, qn124, qn173, qn177, qn240, qn255, qn295, qn352, qn353, qn533, qn999, qn1000, qn1023, qn6561, qn10000, qn20787, qn1000000, qn252645135, qn858993459, qn1000000000, qn1431655765, q_s1, q_s2, q_s3, q_s4, q_s5, iI_add, iI_sub, iI_mul, iI_neg, q_lt, q_le, q_eq, qz0, qz1, qz2, qz3, if_pos, if_neg, reduceIte])
  refine ⟨iI (5 : Nat), e.trans ?_⟩
  have : N1 = it_M M 155 o 5 it_u1 := by
    funext x y
    by_cases c : x = 155
    · subst c
      by_cases e : o ≤ y ∧ y < o + 5
      · obtain ⟨m, rfl⟩ : ∃ m, y = o + m := ⟨y - o, by omega⟩
        rw [it_M_i (by omega), hN.1 m (by omega)]
      · rw [it_M_o (by omega), hN.2 _ _ (by omega)]
    · rw [it_M_r c, hN.2 _ _ (Or.inl c)]
  rw [this]
theorem m_items1 (w : tp_w b n) (hk : ∀ z, -1 ≤ it_s1 z ∧ it_s1 z < 5) (K : md_K q0 w0 b n M) {o : Nat} (ho : o + 5 ≤ 40) (ha : a ≤ n) : it_end b n (f_X12_readItems (md_m M a (-1)) (iI 112) (iI o)) M 155 o 5 (it_go b n it_s1 it_lo1 it_hi1 (5 + 1) a 0 it_u1) := by
  obtain ⟨j, e1⟩ := m_us1 w ho M a (-1)
  have K1 : md_K q0 w0 b n (it_M M 155 o 5 it_u1) := it_mK K (by decide)
  have e2 := m_look (t := -1) w K1 ha
  have hl := tp_l_b (a := a) w
  have e3 := m_sp1 (z := tp_l b n a) (by omega)
  have e4 := m_it1 w hk ho (5 + 1) 0 a gs_FU 0 it_u1 M K (by omega) ha (by decide) (by decide) (by decide)
  have e5 : f_X12_readItems (md_m M a (-1)) (iI 112) (iI o) = l_X12_readItems_45 (iI 112) (iI o) gs_FU (iI ((0 : Nat) : Int)) (iI (it_s1 (tp_l b n a))) (md_m (it_M M 155 o 5 it_u1) (tp_s b n a) (-1)) := by
    unfold f_X12_readItems
    simp (disch := omega) only [qn0, qn1, qn2, qn3, qn4, qn5, qn6, qn7, qn8, qn9, qn10, qn11, qn12, qn13, qn14, qn15, qn16, qn17, qn18, qn24, qn30, qn31, qn32, qn33, qn36, qn38, qn40, qn41, qn42, qn43, qn45, qn47, qn48, qn49, qn50, qn51, qn52, qn53, qn57, qn58, qn59, qn60, qn61, qn62, qn63, qn91, qn93, qn97, qn99, qn100, qn103, qn104, qn112, qn113, qn115, qn116, qn118, qn119, qn121, qn124, qn173, qn177, qn240, qn255, qn295, qn352, qn353, qn533, qn999, qn1000, qn1023, qn6561, qn10000, qn20787, qn1000000, qn252645135, qn858993459, qn1000000000, qn1431655765, q_s1, q_s2, q_s3, q_s4, q_s5, iI_add, iI_sub, iI_mul, iI_neg, q_lt, q_le, q_eq, qz0, qz1, qz2, qz3, if_pos, if_neg, reduceIte, e1, e2, e3]
    rfl
  rw [e5]
  exact e4
end Items2
