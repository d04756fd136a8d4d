/-! the TAPE as it is read: class and model -/
def tp_sk (b : Nat → Int) (n : Nat) : Nat → Nat → Nat
  | 0, a => a
  | f + 1, a => if b a = 32 then tp_sk b n f (a + 1) else a
/-- where the next sign stands, behind blanks -/
def tp_s (b : Nat → Int) (n a : Nat) : Nat := tp_sk b n (n - a) a
/-- the next sign, -1 behind the last -/
def tp_l (b : Nat → Int) (n a : Nat) : Int := if tp_s b n a < n then b (tp_s b n a) else -1
theorem tp_s_b {b : Nat → Int} {n a : Nat} (h : a ≤ n) : a ≤ tp_s b n a ∧ tp_s b n a ≤ n := by
  have key : ∀ d a, a + d = n → a ≤ tp_sk b n d a ∧ tp_sk b n d a ≤ n := by
    intro d
    induction d with
    | zero => intro a ha; simp only [tp_sk]; omega
    | succ d ih =>
      intro a ha
      simp only [tp_sk]
      split
      · have := ih (a + 1) (by omega)
        omega
      · omega
  exact key (n - a) a (by omega)
theorem tp_s_32 {b : Nat → Int} {n a : Nat} (h : a < n) (hb : b a = 32) : tp_s b n a = tp_s b n (a + 1) := by
  unfold tp_s
  obtain ⟨d, e⟩ : ∃ d, n - a = d + 1 := ⟨n - a - 1, by omega⟩
  rw [e, show n - (a + 1) = d by omega]
  simp only [tp_sk]
  rw [if_pos hb]
theorem tp_s_no {b : Nat → Int} {n a : Nat} (h : n ≤ a ∨ b a ≠ 32) : tp_s b n a = a := by
  unfold tp_s
  rcases (by omega : n ≤ a ∨ a < n) with c | c
  · rw [show n - a = 0 by omega]
    rfl
  · obtain ⟨d, e⟩ : ∃ d, n - a = d + 1 := ⟨n - a - 1, by omega⟩
    rw [e]
    simp only [tp_sk]
    rw [if_neg (by omega)]
theorem tp_s_at {b : Nat → Int} {n a : Nat} (h : a ≤ n) : n ≤ tp_s b n a ∨ b (tp_s b n a) ≠ 32 := by
  have key : ∀ d a, a + d = n → n ≤ tp_sk b n d a ∨ b (tp_sk b n d a) ≠ 32 := by
    intro d
    induction d with
    | zero => intro a ha; simp only [tp_sk]; omega
    | succ d ih =>
      intro a ha
      simp only [tp_sk]
      split
      · exact ih (a + 1) (by omega)
      · rename_i c
        exact Or.inr c
  exact key (n - a) a (by omega)
theorem tp_ss {b : Nat → Int} {n a : Nat} (h : a ≤ n) : tp_s b n (tp_s b n a) = tp_s b n a := tp_s_no (tp_s_at h)
theorem tp_ll {b : Nat → Int} {n a : Nat} (h : a ≤ n) : tp_l b n (tp_s b n a) = tp_l b n a := by
  unfold tp_l
  rw [tp_ss h]
def tp_w (b : Nat → Int) (n : Nat) : Prop := n ≤ 240 ∧ ∀ i, i < n → 1 ≤ b i ∧ b i ≤ 255
theorem tp_l_b {b : Nat → Int} {n a : Nat} (w : tp_w b n) : (tp_l b n a = -1 ∧ n ≤ tp_s b n a) ∨ (1 ≤ tp_l b n a ∧ tp_l b n a ≤ 255 ∧ tp_s b n a < n ∧ tp_l b n a = b (tp_s b n a)) := by
  unfold tp_l
  by_cases c : tp_s b n a < n
  · rw [if_pos c]
    have := w.2 _ c
    right
    omega
  · rw [if_neg c]
    left
    omega
def tp_K (b : Nat → Int) (n : Nat) (M : gs_M) : Prop := M 1 1 = iI n ∧ ∀ i, i < n → M 2 i = iI (b i)
def tp_m (M : gs_M) (a : Nat) (t : Int) : gs_M := gs_up (gs_up M 1 2 (iI a)) 1 3 (iI t)
section Tape
variable {b : Nat → Int} {n a : Nat} {t : Int} {M : gs_M}
theorem tp_m1 : tp_m M a t 1 1 = M 1 1 := rfl
theorem tp_m2 : tp_m M a t 1 2 = iI a := rfl
theorem tp_m3 : tp_m M a t 1 3 = iI t := rfl
theorem tp_mr {r : Nat} (h : r ≠ 1) : tp_m M a t r = M r := by
  unfold tp_m
  rw [ma_row_ne _ _ _ _ _ h, ma_row_ne _ _ _ _ _ h]
theorem tp_u2 (a' : Nat) : gs_up (tp_m M a t) 1 2 (iI a') = tp_m M a' t := by
  funext x y
  unfold tp_m
  simp only [gs_up_at]
  by_cases c : x = 1 ∧ y = 2
  · rw [if_pos c, if_neg (by omega), if_pos c]
  · rw [if_neg c, if_neg c, if_neg c]
theorem tp_u3 (t' : Int) : gs_up (tp_m M a t) 1 3 (iI t') = tp_m M a t' := by
  funext x y
  unfold tp_m
  simp only [gs_up_at]
  by_cases c : x = 1 ∧ y = 3
  · rw [if_pos c, if_pos c]
  · rw [if_neg c, if_neg c, if_neg c]
theorem tp_ur {r k : Nat} (v : Int32) (h : r ≠ 1) : gs_up (tp_m M a t) r k v = tp_m (gs_up M r k v) a t := by
  funext x y
  unfold tp_m
  simp only [gs_up_at]
  by_cases c : x = r ∧ y = k
  · rw [if_pos c, if_neg (by omega), if_neg (by omega), if_pos c]
  · rw [if_neg c, if_neg c]
theorem tp_rr {r : Nat} (f : Nat → Int32) (h : r ≠ 1) : gs_row (tp_m M a t) r f = tp_m (gs_row M r f) a t := by
  funext x y
  unfold tp_m
  simp only [gs_up_at, gs_row_at]
  by_cases c : x = r
  · rw [if_pos c, if_neg (by omega), if_neg (by omega), if_pos c]
  · rw [if_neg c, if_neg c]
theorem tp_K.up (K : tp_K b n M) {r k : Nat} (v : Int32) (h : r ≠ 1) (h2 : r ≠ 2) : tp_K b n (gs_up M r k v) := by
  refine ⟨?_, fun i hi => ?_⟩
  · rw [ma_row_ne _ _ _ _ _ (Ne.symm h)]; exact K.1
  · rw [ma_row_ne _ _ _ _ _ (Ne.symm h2)]; exact K.2 i hi
theorem tp_K.row (K : tp_K b n M) {r : Nat} (f : Nat → Int32) (h : r ≠ 1) (h2 : r ≠ 2) : tp_K b n (gs_row M r f) := by
  refine ⟨?_, fun i hi => ?_⟩
  · rw [ma_rowr_ne _ _ _ _ (Ne.symm h)]; exact K.1
  · rw [ma_rowr_ne _ _ _ _ (Ne.symm h2)]; exact K.2 i hi
theorem c_lookl (w : tp_w b n) (K : tp_K b n M) : ∀ (d a f : Nat), a + d = n → d < f → l_X7_look_0 f (tp_m M a t) = some (tp_m M (tp_s b n a) t) := by
  have w1 := w.1
  intro d
  induction d with
  | zero =>
    intro a f ha hf
    obtain ⟨g, rfl⟩ : ∃ g, f = g + 1 := ⟨f - 1, by omega⟩
    rw [tp_s_no (Or.inl (by omega))]
    simp only [l_X7_look_0]
    simp (disch := omega) only [qn0, qn1, qn2, qn3, qn4, qn5, qn6, qn7, qn8, qn9, qn10, qn11, qn12, qn13, qn14, qn15, qn16, qn17, qn18, qn24, qn30, qn31, qn32, qn33, qn36, qn38, qn40, qn41, qn42, qn43, qn45, qn47, qn48, qn49, qn50, qn51, qn52, qn53, qn57, qn58, qn59, qn60, qn61, qn62, qn63, qn91, qn93, qn97, qn99, qn100, qn103, qn104, qn112, qn113, qn115, qn116, qn118, qn119, qn121, qn124, qn173, qn177, qn240, qn255, qn295, qn352, qn353, qn533, qn999, qn1000, qn1023, qn6561, qn10000, qn20787, qn1000000, qn252645135, qn858993459, qn1000000000, qn1431655765, q_s1, q_s2, q_s3, q_s4, q_s5, iI_add, iI_sub, iI_mul, iI_neg, q_lt, q_le, q_eq, qz0, qz1, qz2, qz3, if_pos, if_neg, reduceIte, tp_m1, tp_m2, K.1]
  | succ d ih =>
    intro a f ha hf
    obtain ⟨g, rfl⟩ : ∃ g, f = g + 1 := ⟨f - 1, by omega⟩
    have hb := w.2 a (by omega)
    have e1 : gs_rd (tp_m M a t) 2 240 (iI a) = some (iI (b a)) := by
      rw [q_rdn a rfl (by omega) (by decide), tp_mr (by decide), K.2 a (by omega)]
    simp only [l_X7_look_0]
    by_cases c : b a = 32
    · rw [tp_s_32 (by omega) c]
      have e2 := ih (a + 1) g (by omega) (by omega)
      have e3 : gs_up (tp_m M a t) 1 2 (iI (a + 1)) = tp_m M (a + 1) t := tp_u2 (a + 1)
      simp (disch := omega) only [qn0, qn1, qn2, qn3, qn4, qn5, qn6, qn7, qn8, qn9, qn10, qn11, qn12, qn13, qn14, qn15, qn16, qn17, qn18, qn24, qn30, qn31, qn32, qn33, qn36, qn38, qn40, qn41, qn42, qn43, qn45, qn47, qn48, qn49, qn50, qn51, qn52, qn53, qn57, qn58, qn59, qn60, qn61, qn62, qn63, qn91, qn93, qn97, qn99, qn100, qn103, qn104, qn112, qn113, qn115, qn116, qn118, qn119, qn121, qn124, qn173, qn177, qn240, qn255, qn295, qn352, qn353, qn533, qn999, qn1000, qn1023, qn6561, qn10000, qn20787, qn1000000, qn252645135, qn858993459, qn1000000000, qn1431655765, q_s1, q_s2, q_s3, q_s4, q_s5, iI_add, iI_sub, iI_mul, iI_neg, q_lt, q_le, q_eq, qz0, qz1, qz2, qz3, if_pos, if_neg, reduceIte, tp_m1, tp_m2, K.1, e1, e3, e2]
    · rw [tp_s_no (Or.inr c)]
      simp (disch := omega) only [qn0, qn1, qn2, qn3, qn4, qn5, qn6, qn7, qn8, qn9, qn10, qn11, qn12, qn13, qn14, qn15, qn16, qn17, qn18, qn24, qn30, qn31, qn32, qn33, qn36, qn38, qn40, qn41, qn42, qn43, qn45, qn47, qn48, qn49, qn50, qn51, qn52, qn53, qn57, qn58, qn59, qn60, qn61, qn62, qn63, qn91, qn93, qn97, qn99, qn100, qn103, qn104, qn112, qn113, qn115, qn116, qn118, qn119, qn121, qn124, qn173, qn177, qn240, qn255, qn295, qn352, qn353, qn533, qn999, qn1000, qn1023, qn6561, qn10000, qn20787, qn1000000, qn252645135, qn858993459, qn1000000000, qn1431655765, q_s1, q_s2, q_s3, q_s4, q_s5, iI_add, iI_sub, iI_mul, iI_neg, q_lt, q_le, q_eq, qz0, qz1, qz2, qz3, if_pos, if_neg, reduceIte, tp_m1, tp_m2, K.1, e1]
theorem c_look (w : tp_w b n) (K : tp_K b n M) (ha : a ≤ n) : f_X7_look (tp_m M a t) = some (iI (tp_l b n a), tp_m M (tp_s b n a) t) := by
  have w1 := w.1
  have e1 := c_lookl (t := t) w K (n - a) a gs_FU (by omega) (by show n - a < 30000; omega)
  have h1 := tp_s_b (b := b) ha
  unfold f_X7_look tp_l
  by_cases c : tp_s b n a < n
  · have e2 : gs_rd (tp_m M (tp_s b n a) t) 2 240 (iI (tp_s b n a : Nat)) = some (iI (b (tp_s b n a))) := by
      rw [q_rdn (tp_s b n a) rfl (by omega) (by decide), tp_mr (by decide), K.2 _ c]
    simp (disch := omega) only [qn0, qn1, qn2, qn3, qn4, qn5, qn6, qn7, qn8, qn9, qn10, qn11, qn12, qn13, qn14, qn15, qn16, qn17, qn18, qn24, qn30, qn31, qn32, qn33, qn36, qn38, qn40, qn41, qn42, qn43, qn45, qn47, qn48, qn49, qn50, qn51, qn52, qn53, qn57, qn58, qn59, qn60, qn61, qn62, qn63, qn91, qn93, qn97, qn99, qn100, qn103, qn104, qn112, qn113, qn115, qn116, qn118, qn119, qn121, qn124, qn173, qn177, qn240, qn255, qn295, qn352, qn353, qn533, qn999, qn1000, qn1023, qn6561, qn10000, qn20787, qn1000000, qn252645135, qn858993459, qn1000000000, qn1431655765, q_s1, q_s2, q_s3, q_s4, q_s5, iI_add, iI_sub, iI_mul, iI_neg, q_lt, q_le, q_eq, qz0, qz1, qz2, qz3, if_pos, if_neg, reduceIte, e1, tp_m1, tp_m2, K.1, e2]
  · simp (disch := omega) only [qn0, qn1, qn2, qn3, qn4, qn5, qn6, qn7, qn8, qn9, qn10, qn11, qn12, qn13, qn14, qn15, qn16, qn17, qn18, qn24, qn30, qn31, qn32, qn33, qn36, qn38, qn40, qn41, qn42, qn43, qn45, qn47, qn48, qn49, qn50, qn51, qn52, qn53, qn57, qn58, qn59, qn60, qn61, qn62, qn63, qn91, qn93, qn97, qn99, qn100, qn103, qn104, qn112, qn113, qn115, qn116, qn118, qn119, qn121, qn124, qn173, qn177, qn240, qn255, qn295, qn352, qn353, qn533, qn999, qn1000, qn1023, qn6561, qn10000, qn20787, qn1000000, qn252645135, qn858993459, qn1000000000, qn1431655765, q_s1, q_s2, q_s3, q_s4, q_s5, iI_add, iI_sub, iI_mul, iI_neg, q_lt, q_le, q_eq, qz0, qz1, qz2, qz3, if_pos, if_neg, reduceIte, e1, tp_m1, tp_m2, K.1]
theorem c_step (w : tp_w b n) (K : tp_K b n M) (ha : a ≤ n) : f_X7_step (tp_m M a t) = some (tp_m M (if a < n then a + 1 else a) t) := by
  have w1 := w.1
  have e3 : gs_up (tp_m M a t) 1 2 (iI (a + 1)) = tp_m M (a + 1) t := tp_u2 (a + 1)
  unfold f_X7_step
  by_cases c : a < n <;> simp (disch := omega) only [qn0, qn1, qn2, qn3, qn4, qn5, qn6, qn7, qn8, qn9, qn10, qn11, qn12, qn13, qn14, qn15, qn16, qn17, qn18, qn24, qn30, qn31, qn32, qn33, qn36, qn38, qn40, qn41, qn42, qn43, qn45, qn47, qn48, qn49, qn50, qn51, qn52, qn53, qn57, qn58, qn59, qn60, qn61, qn62, qn63, qn91, qn93, qn97, qn99, qn100, qn103, qn104, qn112, qn113, qn115, qn116, qn118, qn119, qn121, qn124, qn173, qn177, qn240, qn255, qn295, qn352, qn353, qn533, qn999, qn1000, qn1023, qn6561, qn10000, qn20787, qn1000000, qn252645135, qn858993459, qn1000000000, qn1431655765, q_s1, q_s2, q_s3, q_s4, q_s5, iI_add, iI_sub, iI_mul, iI_neg, q_lt, q_le, q_eq, qz0, qz1, qz2, qz3, if_pos, if_neg, reduceIte, tp_m1, tp_m2, K.1, e3]
theorem c_step1 (w : tp_w b n) (K : tp_K b n M) (ha : a < n) : f_X7_step (tp_m M a t) = some (tp_m M (a + 1) t) := by
  rw [c_step w K (by omega), if_pos ha]
theorem c_fail : f_X7_fail (tp_m M a (-1)) = some (iI 0, tp_m M a a) := by
  have e3 : gs_up (tp_m M a (-1)) 1 3 (iI a) = tp_m M a a := tp_u3 a
  unfold f_X7_fail
  simp (disch := omega) only [qn0, qn1, qn2, qn3, qn4, qn5, qn6, qn7, qn8, qn9, qn10, qn11, qn12, qn13, qn14, qn15, qn16, qn17, qn18, qn24, qn30, qn31, qn32, qn33, qn36, qn38, qn40, qn41, qn42, qn43, qn45, qn47, qn48, qn49, qn50, qn51, qn52, qn53, qn57, qn58, qn59, qn60, qn61, qn62, qn63, qn91, qn93, qn97, qn99, qn100, qn103, qn104, qn112, qn113, qn115, qn116, qn118, qn119, qn121, qn124, qn173, qn177, qn240, qn255, qn295, qn352, qn353, qn533, qn999, qn1000, qn1023, qn6561, qn10000, qn20787, qn1000000, qn252645135, qn858993459, qn1000000000, qn1431655765, q_s1, q_s2, q_s3, q_s4, q_s5, iI_add, iI_sub, iI_mul, iI_neg, q_lt, q_le, q_eq, qz0, qz1, qz2, qz3, if_pos, if_neg, reduceIte, tp_m3, tp_m2, e3]
theorem c_isD {z : Int} (h : -1 ≤ z ∧ z ≤ 255) : f_X7_isDigit (iI z) = some (if 48 ≤ z ∧ z ≤ 57 then iI 1 else iI 0) := by
  unfold f_X7_isDigit
  rcases (by omega : z < 48 ∨ 57 < z ∨ (48 ≤ z ∧ z ≤ 57)) with c | c | c
  · rw [if_neg (show ¬ (48 ≤ z ∧ z ≤ 57) by omega)]
    simp (disch := omega) only [qn0, qn1, qn2, qn3, qn4, qn5, qn6, qn7, qn8, qn9, qn10, qn11, qn12, qn13, qn14, qn15, qn16, qn17, qn18, qn24, qn30, qn31, qn32, qn33, qn36, qn38, qn40, qn41, qn42, qn43, qn45, qn47, qn48, qn49, qn50, qn51, qn52, qn53, qn57, qn58, qn59, qn60, qn61, qn62, qn63, qn91, qn93, qn97, qn99, qn100, qn103, qn104, qn112, qn113, qn115, qn116, qn118, qn119, qn121, qn124, qn173, qn177, qn240, qn255, qn295, qn352, qn353, qn533, qn999, qn1000, qn1023, qn6561, qn10000, qn20787, qn1000000, qn252645135, qn858993459, qn1000000000, qn1431655765, q_s1, q_s2, q_s3, q_s4, q_s5, iI_add, iI_sub, iI_mul, iI_neg, q_lt, q_le, q_eq, qz0, qz1, qz2, qz3, if_pos, if_neg, reduceIte]
  · rw [if_neg (show ¬ (48 ≤ z ∧ z ≤ 57) by omega)]
    simp (disch := omega) only [qn0, qn1, qn2, qn3, qn4, qn5, qn6, qn7, qn8, qn9, qn10, qn11, qn12, qn13, qn14, qn15, qn16, qn17, qn18, qn24, qn30, qn31, qn32, qn33, qn36, qn38, qn40, qn41, qn42, qn43, qn45, qn47, qn48, qn49, qn50, qn51, qn52, qn53, qn57, qn58, qn59, qn60, qn61, qn62, qn63, qn91, qn93, qn97, qn99, qn100, qn103, qn104, qn112, qn113, qn115, qn116, qn118, qn119, qn121, qn124, qn173, qn177, qn240, qn255, qn295, qn352, qn353, qn533, qn999, qn1000, qn1023, qn6561, qn10000, qn20787, qn1000000, qn252645135, qn858993459, qn1000000000, qn1431655765, q_s1, q_s2, q_s3, q_s4, q_s5, iI_add, iI_sub, iI_mul, iI_neg, q_lt, q_le, q_eq, qz0, qz1, qz2, qz3, if_pos, if_neg, reduceIte]
  · rw [if_pos c]
    simp (disch := omega) only [qn0, qn1, qn2, qn3, qn4, qn5, qn6, qn7, qn8, qn9, qn10, qn11, qn12, qn13, qn14, qn15, qn16, qn17, qn18, qn24, qn30, qn31, qn32, qn33, qn36, qn38, qn40, qn41, qn42, qn43, qn45, qn47, qn48, qn49, qn50, qn51, qn52, qn53, qn57, qn58, qn59, qn60, qn61, qn62, qn63, qn91, qn93, qn97, qn99, qn100, qn103, qn104, qn112, qn113, qn115, qn116, qn118, qn119, qn121, qn124, qn173, qn177, qn240, qn255, qn295, qn352, qn353, qn533, qn999, qn1000, qn1023, qn6561, qn10000, qn20787, qn1000000, qn252645135, qn858993459, qn1000000000, qn1431655765, q_s1, q_s2, q_s3, q_s4, q_s5, iI_add, iI_sub, iI_mul, iI_neg, q_lt, q_le, q_eq, qz0, qz1, qz2, qz3, if_pos, if_neg, reduceIte]
theorem c_take (w : tp_w b n) (K : tp_K b n M) (ha : a ≤ n) {c : Int} (hc : 1 ≤ c ∧ c ≤ 255) : f_X7_take (tp_m M a (-1)) (iI c) = some (if tp_l b n a = c then (iI 1, tp_m M (tp_s b n a + 1) (-1)) else (iI 0, tp_m M (tp_s b n a) (tp_s b n a : Nat))) := by
  have e1 := c_look (t := -1) w K ha
  have hl := tp_l_b (a := a) w
  have h1 := tp_s_b (b := b) ha
  unfold f_X7_take
  by_cases d : tp_l b n a = c
  · have e2 := c_step1 (t := -1) w K (a := tp_s b n a) (by omega)
    rw [if_pos d]
    simp (disch := omega) only [qn0, qn1, qn2, qn3, qn4, qn5, qn6, qn7, qn8, qn9, qn10, qn11, qn12, qn13, qn14, qn15, qn16, qn17, qn18, qn24, qn30, qn31, qn32, qn33, qn36, qn38, qn40, qn41, qn42, qn43, qn45, qn47, qn48, qn49, qn50, qn51, qn52, qn53, qn57, qn58, qn59, qn60, qn61, qn62, qn63, qn91, qn93, qn97, qn99, qn100, qn103, qn104, qn112, qn113, qn115, qn116, qn118, qn119, qn121, qn124, qn173, qn177, qn240, qn255, qn295, qn352, qn353, qn533, qn999, qn1000, qn1023, qn6561, qn10000, qn20787, qn1000000, qn252645135, qn858993459, qn1000000000, qn1431655765, q_s1, q_s2, q_s3, q_s4, q_s5, iI_add, iI_sub, iI_mul, iI_neg, q_lt, q_le, q_eq, qz0, qz1, qz2, qz3, if_pos, if_neg, reduceIte, e1, e2]
  · have e2 := c_fail (M := M) (a := tp_s b n a)
    rw [if_neg d]
    simp (disch := omega) only [qn0, qn1, qn2, qn3, qn4, qn5, qn6, qn7, qn8, qn9, qn10, qn11, qn12, qn13, qn14, qn15, qn16, qn17, qn18, qn24, qn30, qn31, qn32, qn33, qn36, qn38, qn40, qn41, qn42, qn43, qn45, qn47, qn48, qn49, qn50, qn51, qn52, qn53, qn57, qn58, qn59, qn60, qn61, qn62, qn63, qn91, qn93, qn97, qn99, qn100, qn103, qn104, qn112, qn113, qn115, qn116, qn118, qn119, qn121, qn124, qn173, qn177, qn240, qn255, qn295, qn352, qn353, qn533, qn999, qn1000, qn1023, qn6561, qn10000, qn20787, qn1000000, qn252645135, qn858993459, qn1000000000, qn1431655765, q_s1, q_s2, q_s3, q_s4, q_s5, iI_add, iI_sub, iI_mul, iI_neg, q_lt, q_le, q_eq, qz0, qz1, qz2, qz3, if_pos, if_neg, reduceIte, e1, e2]
/-- digits from a place on, at most k, and their number -/
def tp_d (b : Nat → Int) (n : Nat) : Nat → Nat → Int → Nat × Int
  | 0, a, v => (a, v)
  | k + 1, a, v => if a < n ∧ 48 ≤ b a ∧ b a ≤ 57 then tp_d b n k (a + 1) (v * 10 + b a - 48) else (a, v)
theorem tp_d_b {b : Nat → Int} {n : Nat} : ∀ (k a : Nat) (v : Int), a ≤ n → a ≤ (tp_d b n k a v).1 ∧ (tp_d b n k a v).1 ≤ n ∧ (tp_d b n k a v).1 ≤ a + k := by
  intro k
  induction k with
  | zero => intro a v h; simp only [tp_d]; omega
  | succ k ih =>
    intro a v h
    simp only [tp_d]
    split
    · have := ih (a + 1) (v * 10 + b a - 48) (by omega)
      omega
    · simp only
      omega
theorem tp_d_v {b : Nat → Int} {n : Nat} : ∀ (k a : Nat) (v B : Int), 0 ≤ v → v ≤ B → 0 ≤ (tp_d b n k a v).2 ∧ (tp_d b n k a v).2 < (B + 1) * 10 ^ k := by
  intro k
  induction k with
  | zero => intro a v B h1 h2; simp only [tp_d]; omega
  | succ k ih =>
    intro a v B h1 h2
    simp only [tp_d]
    rw [Int.pow_succ]
    split
    · rename_i c
      have := ih (a + 1) (v * 10 + b a - 48) (B * 10 + 9) (by omega) (by omega)
      have e : (B * 10 + 9 + 1) * 10 ^ k = (B + 1) * (10 ^ k * 10) := by
        rw [show B * 10 + 9 + 1 = (B + 1) * 10 by omega, Int.mul_assoc, Int.mul_comm 10]
      omega
    · have h3 : (1 : Int) ≤ 10 ^ k * 10 := by
        have : (0 : Int) < 10 ^ k := Int.pow_pos (by decide)
        omega
      have h4 := Int.mul_le_mul_of_nonneg_left h3 (show 0 ≤ B + 1 by omega)
      simp only
      omega
theorem c_num_l (w : tp_w b n) (K : tp_K b n M) {q : Nat} (hq : q ≤ 4) : ∀ (d i a f : Nat) (v : Int), i + d = q → a ≤ n → d < f → ∃ j, l_X7_number_21 (iI q) f (iI v) (iI i) (tp_m M a t) = some (iI (tp_d b n d a v).2, iI (j : Nat), tp_m M (tp_d b n d a v).1 t) := by
  have w1 := w.1
  intro d
  induction d with
  | zero =>
    intro i a f v hi ha hf
    obtain ⟨g, rfl⟩ : ∃ g, f = g + 1 := ⟨f - 1, by omega⟩
    refine ⟨i, ?_⟩
    simp only [l_X7_number_21, tp_d]
    simp (disch := omega) only [qn0, qn1, qn2, qn3, qn4, qn5, qn6, qn7, qn8, qn9, qn10, qn11, qn12, qn13, qn14, qn15, qn16, qn17, qn18, qn24, qn30, qn31, qn32, qn33, qn36, qn38, qn40, qn41, qn42, qn43, qn45, qn47, qn48, qn49, qn50, qn51, qn52, qn53, qn57, qn58, qn59, qn60, qn61, qn62, qn63, qn91, qn93, qn97, qn99, qn100, qn103, qn104, qn112, qn113, qn115, qn116, qn118, qn119, qn121, qn124, qn173, qn177, qn240, qn255, qn295, qn352, qn353, qn533, qn999, qn1000, qn1023, qn6561, qn10000, qn20787, qn1000000, qn252645135, qn858993459, qn1000000000, qn1431655765, q_s1, q_s2, q_s3, q_s4, q_s5, iI_add, iI_sub, iI_mul, iI_neg, q_lt, q_le, q_eq, qz0, qz1, qz2, qz3, if_pos, if_neg, reduceIte]
  | succ d ih =>
    intro i a f v hi ha hf
    obtain ⟨g, rfl⟩ : ∃ g, f = g + 1 := ⟨f - 1, by omega⟩
    simp only [tp_d]
    rcases (by omega : n ≤ a ∨ a < n) with c | c
    · refine ⟨i, ?_⟩
      rw [if_neg (by omega)]
      simp only [l_X7_number_21]
      simp (disch := omega) only [qn0, qn1, qn2, qn3, qn4, qn5, qn6, qn7, qn8, qn9, qn10, qn11, qn12, qn13, qn14, qn15, qn16, qn17, qn18, qn24, qn30, qn31, qn32, qn33, qn36, qn38, qn40, qn41, qn42, qn43, qn45, qn47, qn48, qn49, qn50, qn51, qn52, qn53, qn57, qn58, qn59, qn60, qn61, qn62, qn63, qn91, qn93, qn97, qn99, qn100, qn103, qn104, qn112, qn113, qn115, qn116, qn118, qn119, qn121, qn124, qn173, qn177, qn240, qn255, qn295, qn352, qn353, qn533, qn999, qn1000, qn1023, qn6561, qn10000, qn20787, qn1000000, qn252645135, qn858993459, qn1000000000, qn1431655765, q_s1, q_s2, q_s3, q_s4, q_s5, iI_add, iI_sub, iI_mul, iI_neg, q_lt, q_le, q_eq, qz0, qz1, qz2, qz3, if_pos, if_neg, reduceIte, tp_m1, tp_m2, K.1]
    · have hb := w.2 a c
      have e1 : gs_rd (tp_m M a t) 2 240 (iI a) = some (iI (b a)) := by
        rw [q_rdn a rfl (by omega) (by decide), tp_mr (by decide), K.2 a c]
      have e2 := c_isD (z := b a) (by omega)
      by_cases d2 : 48 ≤ b a ∧ b a ≤ 57
      · rw [if_pos d2] at e2
        rw [if_pos ⟨c, d2⟩]
        obtain ⟨j, e3⟩ := ih (i + 1) (a + 1) g (v * 10 + b a - 48) (by omega) (by omega) (by omega)
        have e4 : gs_up (tp_m M a t) 1 2 (iI (a + 1)) = tp_m M (a + 1) t := tp_u2 (a + 1)
        have e5 : iI ((i + 1 : Nat) : Int) = iI (i + 1) := rfl
        rw [e5] at e3
        refine ⟨j, ?_⟩
        simp only [l_X7_number_21]
        simp (disch := omega) only [qn0, qn1, qn2, qn3, qn4, qn5, qn6, qn7, qn8, qn9, qn10, qn11, qn12, qn13, qn14, qn15, qn16, qn17, qn18, qn24, qn30, qn31, qn32, qn33, qn36, qn38, qn40, qn41, qn42, qn43, qn45, qn47, qn48, qn49, qn50, qn51, qn52, qn53, qn57, qn58, qn59, qn60, qn61, qn62, qn63, qn91, qn93, qn97, qn99, qn100, qn103, qn104, qn112, qn113, qn115, qn116, qn118, qn119, qn121, qn124, qn173, qn177, qn240, qn255, qn295, qn352, qn353, qn533, qn999, qn1000, qn1023, qn6561, qn10000, qn20787, qn1000000, qn252645135, qn858993459, qn1000000000, qn1431655765, q_s1, q_s2, q_s3, q_s4, q_s5, iI_add, iI_sub, iI_mul, iI_neg, q_lt, q_le, q_eq, qz0, qz1, qz2, qz3, if_pos, if_neg, reduceIte, tp_m1, tp_m2, K.1, e1, e2, e4, e3]
      · rw [if_neg d2] at e2
        rw [if_neg (fun h => d2 h.2)]
        refine ⟨i, ?_⟩
        simp only [l_X7_number_21]
        simp (disch := omega) only [qn0, qn1, qn2, qn3, qn4, qn5, qn6, qn7, qn8, qn9, qn10, qn11, qn12, qn13, qn14, qn15, qn16, qn17, qn18, qn24, qn30, qn31, qn32, qn33, qn36, qn38, qn40, qn41, qn42, qn43, qn45, qn47, qn48, qn49, qn50, qn51, qn52, qn53, qn57, qn58, qn59, qn60, qn61, qn62, qn63, qn91, qn93, qn97, qn99, qn100, qn103, qn104, qn112, qn113, qn115, qn116, qn118, qn119, qn121, qn124, qn173, qn177, qn240, qn255, qn295, qn352, qn353, qn533, qn999, qn1000, qn1023, qn6561, qn10000, qn20787, qn1000000, qn252645135, qn858993459, qn1000000000, qn1431655765, q_s1, q_s2, q_s3, q_s4, q_s5, iI_add, iI_sub, iI_mul, iI_neg, q_lt, q_le, q_eq, qz0, qz1, qz2, qz3, if_pos, if_neg, reduceIte, tp_m1, tp_m2, K.1, e1, e2]
/-- a number: where it ends and its value; or the FAULT -/
def tp_n (b : Nat → Int) (n q a : Nat) : Nat ⊕ (Nat × Int) :=
  if 48 ≤ tp_l b n a ∧ tp_l b n a ≤ 57 then
    (if (tp_d b n q (tp_s b n a) 0).1 < n ∧ 48 ≤ b (tp_d b n q (tp_s b n a) 0).1 ∧ b (tp_d b n q (tp_s b n a) 0).1 ≤ 57 then .inl (tp_d b n q (tp_s b n a) 0).1 else .inr (tp_d b n q (tp_s b n a) 0))
  else .inl (tp_s b n a)
theorem c_num (w : tp_w b n) (K : tp_K b n M) (ha : a ≤ n) {q : Nat} (hq : q ≤ 4) : f_X7_number (tp_m M a (-1)) (iI q) = some (match tp_n b n q a with | .inl e => (iI (-1), tp_m M e e) | .inr (a', v) => (iI v, tp_m M a' (-1))) := by
  have w1 := w.1
  have e1 := c_look (t := -1) w K ha
  have hl := tp_l_b (a := a) w
  have h1 := tp_s_b (b := b) ha
  have e2 := c_isD (z := tp_l b n a) (by omega)
  obtain ⟨j, e3⟩ := c_num_l (t := -1) w K hq q 0 (tp_s b n a) gs_FU 0 (by omega) h1.2 (by show q < 30000; omega)
  have e3' : l_X7_number_21 (iI q) gs_FU (iI 0) (iI 0) (tp_m M (tp_s b n a) (-1)) = some (iI (tp_d b n q (tp_s b n a) 0).2, iI (j : Nat), tp_m M (tp_d b n q (tp_s b n a) 0).1 (-1)) := e3
  have h2 := tp_d_b (b := b) q (tp_s b n a) 0 h1.2
  unfold tp_n
  by_cases c : 48 ≤ tp_l b n a ∧ tp_l b n a ≤ 57
  · rw [if_pos c] at e2 ⊢
    revert e3' h2
    generalize tp_d b n q (tp_s b n a) 0 = D
    intro e3' h2
    rcases (by omega : n ≤ D.1 ∨ D.1 < n) with d | d
    · rw [if_neg (by omega)]
      unfold f_X7_number
      simp (disch := omega) only [qn0, qn1, qn2, qn3, qn4, qn5, qn6, qn7, qn8, qn9, qn10, qn11, qn12, qn13, qn14, qn15, qn16, qn17, qn18, qn24, qn30, qn31, qn32, qn33, qn36, qn38, qn40, qn41, qn42, qn43, qn45, qn47, qn48, qn49, qn50, qn51, qn52, qn53, qn57, qn58, qn59, qn60, qn61, qn62, qn63, qn91, qn93, qn97, qn99, qn100, qn103, qn104, qn112, qn113, qn115, qn116, qn118, qn119, qn121, qn124, qn173, qn177, qn240, qn255, qn295, qn352, qn353, qn533, qn999, qn1000, qn1023, qn6561, qn10000, qn20787, qn1000000, qn252645135, qn858993459, qn1000000000, qn1431655765, q_s1, q_s2, q_s3, q_s4, q_s5, iI_add, iI_sub, iI_mul, iI_neg, q_lt, q_le, q_eq, qz0, qz1, qz2, qz3, if_pos, if_neg, reduceIte, e1, e2, e3', tp_m1, tp_m2, K.1]
    · have hb := w.2 _ d
      have e4 : gs_rd (tp_m M D.1 (-1)) 2 240 (iI (D.1 : Nat)) = some (iI (b D.1)) := by
        rw [q_rdn D.1 rfl (by omega) (by decide), tp_mr (by decide), K.2 _ d]
      have e5 := c_isD (z := b D.1) (by omega)
      by_cases d2 : 48 ≤ b D.1 ∧ b D.1 ≤ 57
      · rw [if_pos d2] at e5
        rw [if_pos ⟨d, d2⟩]
        have e6 := c_fail (M := M) (a := D.1)
        unfold f_X7_number
        simp (disch := omega) only [qn0, qn1, qn2, qn3, qn4, qn5, qn6, qn7, qn8, qn9, qn10, qn11, qn12, qn13, qn14, qn15, qn16, qn17, qn18, qn24, qn30, qn31, qn32, qn33, qn36, qn38, qn40, qn41, qn42, qn43, qn45, qn47, qn48, qn49, qn50, qn51, qn52, qn53, qn57, qn58, qn59, qn60, qn61, qn62, qn63, qn91, qn93, qn97, qn99, qn100, qn103, qn104, qn112, qn113, qn115, qn116, qn118, qn119, qn121, qn124, qn173, qn177, qn240, qn255, qn295, qn352, qn353, qn533, qn999, qn1000, qn1023, qn6561, qn10000, qn20787, qn1000000, qn252645135, qn858993459, qn1000000000, qn1431655765, q_s1, q_s2, q_s3, q_s4, q_s5, iI_add, iI_sub, iI_mul, iI_neg, q_lt, q_le, q_eq, qz0, qz1, qz2, qz3, if_pos, if_neg, reduceIte, e1, e2, e3', tp_m1, tp_m2, K.1, e4, e5, e6]
      · rw [if_neg d2] at e5
        rw [if_neg (fun h => d2 h.2)]
        unfold f_X7_number
        simp (disch := omega) only [qn0, qn1, qn2, qn3, qn4, qn5, qn6, qn7, qn8, qn9, qn10, qn11, qn12, qn13, qn14, qn15, qn16, qn17, qn18, qn24, qn30, qn31, qn32, qn33, qn36, qn38, qn40, qn41, qn42, qn43, qn45, qn47, qn48, qn49, qn50, qn51, qn52, qn53, qn57, qn58, qn59, qn60, qn61, qn62, qn63, qn91, qn93, qn97, qn99, qn100, qn103, qn104, qn112, qn113, qn115, qn116, qn118, qn119, qn121, qn124, qn173, qn177, qn240, qn255, qn295, qn352, qn353, qn533, qn999, qn1000, qn1023, qn6561, qn10000, qn20787, qn1000000, qn252645135, qn858993459, qn1000000000, qn1431655765, q_s1, q_s2, q_s3, q_s4, q_s5, iI_add, iI_sub, iI_mul, iI_neg, q_lt, q_le, q_eq, qz0, qz1, qz2, qz3, if_pos, if_neg, reduceIte, e1, e2, e3', tp_m1, tp_m2, K.1, e4, e5]
  · rw [if_neg c] at e2 ⊢
    have e6 := c_fail (M := M) (a := tp_s b n a)
    unfold f_X7_number
    simp (disch := omega) only [qn0, qn1, qn2, qn3, qn4, qn5, qn6, qn7, qn8, qn9, qn10, qn11, qn12, qn13, qn14, qn15, qn16, qn17, qn18, qn24, qn30, qn31, qn32, qn33, qn36, qn38, qn40, qn41, qn42, qn43, qn45, qn47, qn48, qn49, qn50, qn51, qn52, qn53, qn57, qn58, qn59, qn60, qn61, qn62, qn63, qn91, qn93, qn97, qn99, qn100, qn103, qn104, qn112, qn113, qn115, qn116, qn118, qn119, qn121, qn124, qn173, qn177, qn240, qn255, qn295, qn352, qn353, qn533, qn999, qn1000, qn1023, qn6561, qn10000, qn20787, qn1000000, qn252645135, qn858993459, qn1000000000, qn1431655765, q_s1, q_s2, q_s3, q_s4, q_s5, iI_add, iI_sub, iI_mul, iI_neg, q_lt, q_le, q_eq, qz0, qz1, qz2, qz3, if_pos, if_neg, reduceIte, e1, e2, e6]
end Tape
/-! the model's tape -/
theorem q_sb : ∀ z : Nat, z < 256 → (iI z).toInt8.toInt32 = iI (if z ≤ 127 then (z : Int) else (z : Int) - 256) := by decide +kernel
theorem q_s8 {z : Int} (h : 1 ≤ z ∧ z ≤ 255) : (iI z).toInt8.toInt32 = iI (if z ≤ 127 then z else z - 256) := by
  obtain ⟨k, rfl⟩ : ∃ k : Nat, z = k := ⟨z.toNat, by omega⟩
  have := q_sb k (by omega)
  rw [this]
  congr 1
  split <;> split <;> omega
theorem q_an255 : ∀ z : Nat, z < 256 → (iI (if z ≤ 127 then (z : Int) else (z : Int) - 256)) &&& iI 255 = iI z := by decide +kernel
theorem q_a8 {z : Int} (h : 1 ≤ z ∧ z ≤ 255) : iI (if z ≤ 127 then z else z - 256) &&& iI 255 = iI z := by
  obtain ⟨k, rfl⟩ : ∃ k : Nat, z = k := ⟨z.toNat, by omega⟩
  have := q_an255 k (by omega)
  rw [← this]
  congr 2
  split <;> split <;> omega
def md_K (r o : Nat) (b : Nat → Int) (n : Nat) (M : gs_M) : Prop := ((r = 148 ∧ o + n ≤ 240) ∨ (r = 149 ∧ o + n ≤ 960)) ∧ M 147 5 = nI r ∧ M 147 8 = iI o ∧ M 147 9 = iI n ∧ ∀ i, i < n → M r (o + i) = (iI (b i)).toInt8.toInt32
def md_m (M : gs_M) (a : Nat) (t : Int) : gs_M := gs_up (gs_up M 147 10 (iI a)) 147 11 (iI t)
section Tape2
variable {b : Nat → Int} {n a r o : Nat} {t : Int} {M : gs_M}
theorem md_mc {y : Nat} (h : y ≠ 10) (h2 : y ≠ 11) : md_m M a t 147 y = M 147 y := by
  unfold md_m
  rw [ma_cell_ne _ _ _ _ _ _ (by omega), ma_cell_ne _ _ _ _ _ _ (by omega)]
theorem md_m5 : md_m M a t 147 5 = M 147 5 := rfl
theorem md_m8 : md_m M a t 147 8 = M 147 8 := rfl
theorem md_m9 : md_m M a t 147 9 = M 147 9 := rfl
theorem md_m10 : md_m M a t 147 10 = iI a := rfl
theorem md_m11 : md_m M a t 147 11 = iI t := rfl
theorem md_mr {x : Nat} (h : x ≠ 147) : md_m M a t x = M x := by
  unfold md_m
  rw [ma_row_ne _ _ _ _ _ h, ma_row_ne _ _ _ _ _ h]
theorem md_u10 (a' : Nat) : gs_up (md_m M a t) 147 10 (iI a') = md_m M a' t := by
  funext x y
  unfold md_m
  simp only [gs_up_at]
  by_cases c : x = 147 ∧ y = 10
  · rw [if_pos c, if_neg (by omega), if_pos c]
  · rw [if_neg c, if_neg c, if_neg c]
theorem md_u11 (t' : Int) : gs_up (md_m M a t) 147 11 (iI t') = md_m M a t' := by
  funext x y
  unfold md_m
  simp only [gs_up_at]
  by_cases c : x = 147 ∧ y = 11
  · rw [if_pos c, if_pos c]
  · rw [if_neg c, if_neg c, if_neg c]
theorem md_ur {x k : Nat} (v : Int32) (h : x ≠ 147 ∨ (k ≠ 10 ∧ k ≠ 11)) : gs_up (md_m M a t) x k v = md_m (gs_up M x k v) a t := by
  funext x' y
  unfold md_m
  simp only [gs_up_at]
  by_cases c : x' = x ∧ y = k
  · rw [if_pos c, if_neg (by omega), if_neg (by omega), if_pos c]
  · rw [if_neg c, if_neg c]
theorem md_K.up (K : md_K r o b n M) {x k : Nat} (v : Int32) (h : x ≠ 148 ∧ x ≠ 149 ∧ (x ≠ 147 ∨ (k ≠ 5 ∧ k ≠ 8 ∧ k ≠ 9))) : md_K r o b n (gs_up M x k v) := by
  obtain ⟨h0, h1, h2, h3, h4⟩ := K
  refine ⟨h0, ?_, ?_, ?_, fun i hi => ?_⟩
  · rw [ma_cell_ne _ _ _ _ _ _ (by omega)]; exact h1
  · rw [ma_cell_ne _ _ _ _ _ _ (by omega)]; exact h2
  · rw [ma_cell_ne _ _ _ _ _ _ (by omega)]; exact h3
  · rw [ma_cell_ne _ _ _ _ _ _ (by omega)]; exact h4 i hi
theorem md_ck (K : md_K r o b n M) : gs_ckB (M 147 5).toNatClampNeg = some r := by
  rw [K.2.1]
  rcases K.1 with ⟨rfl, -⟩ | ⟨rfl, -⟩ <;> rfl
theorem md_rd (w : tp_w b n) (K : md_K r o b n M) (ha : a < n) : gs_rd (md_m M a t) r (gs_bl r) (iI (o + a)) = some (iI (if b a ≤ 127 then b a else b a - 256)) := by
  obtain ⟨h0, h1, h2, h3, h4⟩ := K
  have hb := w.2 a ha
  rcases h0 with ⟨rfl, hh⟩ | ⟨rfl, hh⟩
  · rw [q_rdn (o + a) (by omega) (show o + a < gs_bl 148 by show o + a < 240; omega) (by decide), md_mr (by decide), h4 a ha, q_s8 hb]
  · rw [q_rdn (o + a) (by omega) (show o + a < gs_bl 149 by show o + a < 960; omega) (by decide), md_mr (by decide), h4 a ha, q_s8 hb]
theorem m_lookl (w : tp_w b n) (K : md_K r o b n M) : ∀ (d a f : Nat), a + d = n → d < f → l_X12_look_0 f (md_m M a t) = some (md_m M (tp_s b n a) t) := by
  have w1 := w.1
  have hck := md_ck K
  intro d
  induction d with
  | zero =>
    intro a f ha hf
    obtain ⟨g, rfl⟩ : ∃ g, f = g + 1 := ⟨f - 1, by omega⟩
    rw [tp_s_no (Or.inl (by omega))]
    simp only [l_X12_look_0]
    simp (disch := omega) only [qn0, qn1, qn2, qn3, qn4, qn5, qn6, qn7, qn8, qn9, qn10, qn11, qn12, qn13, qn14, qn15, qn16, qn17, qn18, qn24, qn30, qn31, qn32, qn33, qn36, qn38, qn40, qn41, qn42, qn43, qn45, qn47, qn48, qn49, qn50, qn51, qn52, qn53, qn57, qn58, qn59, qn60, qn61, qn62, qn63, qn91, qn93, qn97, qn99, qn100, qn103, qn104, qn112, qn113, qn115, qn116, qn118, qn119, qn121, qn124, qn173, qn177, qn240, qn255, qn295, qn352, qn353, qn533, qn999, qn1000, qn1023, qn6561, qn10000, qn20787, qn1000000, qn252645135, qn858993459, qn1000000000, qn1431655765, q_s1, q_s2, q_s3, q_s4, q_s5, iI_add, iI_sub, iI_mul, iI_neg, q_lt, q_le, q_eq, qz0, qz1, qz2, qz3, if_pos, if_neg, reduceIte, md_m9, md_m10, K.2.2.2.1]
  | succ d ih =>
    intro a f ha hf
    obtain ⟨g, rfl⟩ : ∃ g, f = g + 1 := ⟨f - 1, by omega⟩
    have hb := w.2 a (by omega)
    have e1 := md_rd (t := t) w K (a := a) (by omega)
    simp only [l_X12_look_0]
    by_cases c : b a = 32
    · rw [tp_s_32 (by omega) c]
      have e2 := ih (a + 1) g (by omega) (by omega)
      have e3 : gs_up (md_m M a t) 147 10 (iI (a + 1)) = md_m M (a + 1) t := md_u10 (a + 1)
      rw [if_pos (show b a ≤ 127 by omega)] at e1
      simp (disch := omega) only [qn0, qn1, qn2, qn3, qn4, qn5, qn6, qn7, qn8, qn9, qn10, qn11, qn12, qn13, qn14, qn15, qn16, qn17, qn18, qn24, qn30, qn31, qn32, qn33, qn36, qn38, qn40, qn41, qn42, qn43, qn45, qn47, qn48, qn49, qn50, qn51, qn52, qn53, qn57, qn58, qn59, qn60, qn61, qn62, qn63, qn91, qn93, qn97, qn99, qn100, qn103, qn104, qn112, qn113, qn115, qn116, qn118, qn119, qn121, qn124, qn173, qn177, qn240, qn255, qn295, qn352, qn353, qn533, qn999, qn1000, qn1023, qn6561, qn10000, qn20787, qn1000000, qn252645135, qn858993459, qn1000000000, qn1431655765, q_s1, q_s2, q_s3, q_s4, q_s5, iI_add, iI_sub, iI_mul, iI_neg, q_lt, q_le, q_eq, qz0, qz1, qz2, qz3, if_pos, if_neg, reduceIte, md_m5, md_m8, md_m9, md_m10, K.2.2.2.1, K.2.2.1, hck, e1, e3, e2]
    · rw [tp_s_no (Or.inr c)]
      rcases (by omega : b a ≤ 127 ∨ 127 < b a) with d2 | d2
      · rw [if_pos d2] at e1
        simp (disch := omega) only [qn0, qn1, qn2, qn3, qn4, qn5, qn6, qn7, qn8, qn9, qn10, qn11, qn12, qn13, qn14, qn15, qn16, qn17, qn18, qn24, qn30, qn31, qn32, qn33, qn36, qn38, qn40, qn41, qn42, qn43, qn45, qn47, qn48, qn49, qn50, qn51, qn52, qn53, qn57, qn58, qn59, qn60, qn61, qn62, qn63, qn91, qn93, qn97, qn99, qn100, qn103, qn104, qn112, qn113, qn115, qn116, qn118, qn119, qn121, qn124, qn173, qn177, qn240, qn255, qn295, qn352, qn353, qn533, qn999, qn1000, qn1023, qn6561, qn10000, qn20787, qn1000000, qn252645135, qn858993459, qn1000000000, qn1431655765, q_s1, q_s2, q_s3, q_s4, q_s5, iI_add, iI_sub, iI_mul, iI_neg, q_lt, q_le, q_eq, qz0, qz1, qz2, qz3, if_pos, if_neg, reduceIte, md_m5, md_m8, md_m9, md_m10, K.2.2.2.1, K.2.2.1, hck, e1]
      · rw [if_neg (by omega)] at e1
        simp (disch := omega) only [qn0, qn1, qn2, qn3, qn4, qn5, qn6, qn7, qn8, qn9, qn10, qn11, qn12, qn13, qn14, qn15, qn16, qn17, qn18, qn24, qn30, qn31, qn32, qn33, qn36, qn38, qn40, qn41, qn42, qn43, qn45, qn47, qn48, qn49, qn50, qn51, qn52, qn53, qn57, qn58, qn59, qn60, qn61, qn62, qn63, qn91, qn93, qn97, qn99, qn100, qn103, qn104, qn112, qn113, qn115, qn116, qn118, qn119, qn121, qn124, qn173, qn177, qn240, qn255, qn295, qn352, qn353, qn533, qn999, qn1000, qn1023, qn6561, qn10000, qn20787, qn1000000, qn252645135, qn858993459, qn1000000000, qn1431655765, q_s1, q_s2, q_s3, q_s4, q_s5, iI_add, iI_sub, iI_mul, iI_neg, q_lt, q_le, q_eq, qz0, qz1, qz2, qz3, if_pos, if_neg, reduceIte, md_m5, md_m8, md_m9, md_m10, K.2.2.2.1, K.2.2.1, hck, e1]
theorem m_look (w : tp_w b n) (K : md_K r o b n M) (ha : a ≤ n) : f_X12_look (md_m M a t) = some (iI (tp_l b n a), md_m M (tp_s b n a) t) := by
  have w1 := w.1
  have hck := md_ck K
  have e1 := m_lookl (t := t) w K (n - a) a gs_FU (by omega) (by show n - a < 30000; omega)
  have h1 := tp_s_b (b := b) ha
  unfold f_X12_look tp_l
  by_cases c : tp_s b n a < n
  · have e2 := md_rd (t := t) w K c
    have e3 := q_a8 (w.2 _ c)
    simp (disch := omega) only [qn0, qn1, qn2, qn3, qn4, qn5, qn6, qn7, qn8, qn9, qn10, qn11, qn12, qn13, qn14, qn15, qn16, qn17, qn18, qn24, qn30, qn31, qn32, qn33, qn36, qn38, qn40, qn41, qn42, qn43, qn45, qn47, qn48, qn49, qn50, qn51, qn52, qn53, qn57, qn58, qn59, qn60, qn61, qn62, qn63, qn91, qn93, qn97, qn99, qn100, qn103, qn104, qn112, qn113, qn115, qn116, qn118, qn119, qn121, qn124, qn173, qn177, qn240, qn255, qn295, qn352, qn353, qn533, qn999, qn1000, qn1023, qn6561, qn10000, qn20787, qn1000000, qn252645135, qn858993459, qn1000000000, qn1431655765, q_s1, q_s2, q_s3, q_s4, q_s5, iI_add, iI_sub, iI_mul, iI_neg, q_lt, q_le, q_eq, qz0, qz1, qz2, qz3, if_pos, if_neg, reduceIte, e1, md_m5, md_m8, md_m9, md_m10, K.2.2.2.1, K.2.2.1, hck, e2, e3]
  · simp (disch := omega) only [qn0, qn1, qn2, qn3, qn4, qn5, qn6, qn7, qn8, qn9, qn10, qn11, qn12, qn13, qn14, qn15, qn16, qn17, qn18, qn24, qn30, qn31, qn32, qn33, qn36, qn38, qn40, qn41, qn42, qn43, qn45, qn47, qn48, qn49, qn50, qn51, qn52, qn53, qn57, qn58, qn59, qn60, qn61, qn62, qn63, qn91, qn93, qn97, qn99, qn100, qn103, qn104, qn112, qn113, qn115, qn116, qn118, qn119, qn121, qn124, qn173, qn177, qn240, qn255, qn295, qn352, qn353, qn533, qn999, qn1000, qn1023, qn6561, qn10000, qn20787, qn1000000, qn252645135, qn858993459, qn1000000000, qn1431655765, q_s1, q_s2, q_s3, q_s4, q_s5, iI_add, iI_sub, iI_mul, iI_neg, q_lt, q_le, q_eq, qz0, qz1, qz2, qz3, if_pos, if_neg, reduceIte, e1, md_m9, md_m10, K.2.2.2.1]
theorem m_fails : f_X12_fails (md_m M a (-1)) = some (iI 0, md_m M a a) := by
  have e3 : gs_up (md_m M a (-1)) 147 11 (iI a) = md_m M a a := md_u11 a
  unfold f_X12_fails
  simp (disch := omega) only [qn0, qn1, qn2, qn3, qn4, qn5, qn6, qn7, qn8, qn9, qn10, qn11, qn12, qn13, qn14, qn15, qn16, qn17, qn18, qn24, qn30, qn31, qn32, qn33, qn36, qn38, qn40, qn41, qn42, qn43, qn45, qn47, qn48, qn49, qn50, qn51, qn52, qn53, qn57, qn58, qn59, qn60, qn61, qn62, qn63, qn91, qn93, qn97, qn99, qn100, qn103, qn104, qn112, qn113, qn115, qn116, qn118, qn119, qn121, qn124, qn173, qn177, qn240, qn255, qn295, qn352, qn353, qn533, qn999, qn1000, qn1023, qn6561, qn10000, qn20787, qn1000000, qn252645135, qn858993459, qn1000000000, qn1431655765, q_s1, q_s2, q_s3, q_s4, q_s5, iI_add, iI_sub, iI_mul, iI_neg, q_lt, q_le, q_eq, qz0, qz1, qz2, qz3, if_pos, if_neg, reduceIte, md_m11, md_m10, e3]
theorem m_fails1 (ht : 0 ≤ t ∧ t ≤ 1000) : f_X12_fails (md_m M a t) = some (iI 0, md_m M a t) := by
  unfold f_X12_fails
  simp (disch := omega) only [qn0, qn1, qn2, qn3, qn4, qn5, qn6, qn7, qn8, qn9, qn10, qn11, qn12, qn13, qn14, qn15, qn16, qn17, qn18, qn24, qn30, qn31, qn32, qn33, qn36, qn38, qn40, qn41, qn42, qn43, qn45, qn47, qn48, qn49, qn50, qn51, qn52, qn53, qn57, qn58, qn59, qn60, qn61, qn62, qn63, qn91, qn93, qn97, qn99, qn100, qn103, qn104, qn112, qn113, qn115, qn116, qn118, qn119, qn121, qn124, qn173, qn177, qn240, qn255, qn295, qn352, qn353, qn533, qn999, qn1000, qn1023, qn6561, qn10000, qn20787, qn1000000, qn252645135, qn858993459, qn1000000000, qn1431655765, q_s1, q_s2, q_s3, q_s4, q_s5, iI_add, iI_sub, iI_mul, iI_neg, q_lt, q_le, q_eq, qz0, qz1, qz2, qz3, if_pos, if_neg, reduceIte, md_m11]
theorem m_isD (w : tp_w b n) (K : md_K r o b n M) (ha : a ≤ n) : f_X12_isDigit (md_m M a t) = some (if a < n ∧ 48 ≤ b a ∧ b a ≤ 57 then iI 1 else iI 0) := by
  have w1 := w.1
  have hck := md_ck K
  unfold f_X12_isDigit
  rcases (by omega : n ≤ a ∨ a < n) with c | c
  · rw [if_neg (show ¬ (a < n ∧ 48 ≤ b a ∧ b a ≤ 57) by omega)]
    simp (disch := omega) only [qn0, qn1, qn2, qn3, qn4, qn5, qn6, qn7, qn8, qn9, qn10, qn11, qn12, qn13, qn14, qn15, qn16, qn17, qn18, qn24, qn30, qn31, qn32, qn33, qn36, qn38, qn40, qn41, qn42, qn43, qn45, qn47, qn48, qn49, qn50, qn51, qn52, qn53, qn57, qn58, qn59, qn60, qn61, qn62, qn63, qn91, qn93, qn97, qn99, qn100, qn103, qn104, qn112, qn113, qn115, qn116, qn118, qn119, qn121, qn124, qn173, qn177, qn240, qn255, qn295, qn352, qn353, qn533, qn999, qn1000, qn1023, qn6561, qn10000, qn20787, qn1000000, qn252645135, qn858993459, qn1000000000, qn1431655765, q_s1, q_s2, q_s3, q_s4, q_s5, iI_add, iI_sub, iI_mul, iI_neg, q_lt, q_le, q_eq, qz0, qz1, qz2, qz3, if_pos, if_neg, reduceIte, md_m9, md_m10, K.2.2.2.1]
  · have hb := w.2 a c
    have e1 := md_rd (t := t) w K c
    rcases (by omega : 127 < b a ∨ (b a ≤ 127 ∧ b a < 48) ∨ (b a ≤ 127 ∧ 57 < b a) ∨ (48 ≤ b a ∧ b a ≤ 57)) with d | d | d | d
    · rw [if_neg (show ¬ (a < n ∧ 48 ≤ b a ∧ b a ≤ 57) by omega)]
      rw [if_neg (by omega)] at e1
      simp (disch := omega) only [qn0, qn1, qn2, qn3, qn4, qn5, qn6, qn7, qn8, qn9, qn10, qn11, qn12, qn13, qn14, qn15, qn16, qn17, qn18, qn24, qn30, qn31, qn32, qn33, qn36, qn38, qn40, qn41, qn42, qn43, qn45, qn47, qn48, qn49, qn50, qn51, qn52, qn53, qn57, qn58, qn59, qn60, qn61, qn62, qn63, qn91, qn93, qn97, qn99, qn100, qn103, qn104, qn112, qn113, qn115, qn116, qn118, qn119, qn121, qn124, qn173, qn177, qn240, qn255, qn295, qn352, qn353, qn533, qn999, qn1000, qn1023, qn6561, qn10000, qn20787, qn1000000, qn252645135, qn858993459, qn1000000000, qn1431655765, q_s1, q_s2, q_s3, q_s4, q_s5, iI_add, iI_sub, iI_mul, iI_neg, q_lt, q_le, q_eq, qz0, qz1, qz2, qz3, if_pos, if_neg, reduceIte, md_m5, md_m8, md_m9, md_m10, K.2.2.2.1, K.2.2.1, hck, e1]
    · rw [if_neg (show ¬ (a < n ∧ 48 ≤ b a ∧ b a ≤ 57) by omega)]
      rw [if_pos (by omega)] at e1
      simp (disch := omega) only [qn0, qn1, qn2, qn3, qn4, qn5, qn6, qn7, qn8, qn9, qn10, qn11, qn12, qn13, qn14, qn15, qn16, qn17, qn18, qn24, qn30, qn31, qn32, qn33, qn36, qn38, qn40, qn41, qn42, qn43, qn45, qn47, qn48, qn49, qn50, qn51, qn52, qn53, qn57, qn58, qn59, qn60, qn61, qn62, qn63, qn91, qn93, qn97, qn99, qn100, qn103, qn104, qn112, qn113, qn115, qn116, qn118, qn119, qn121, qn124, qn173, qn177, qn240, qn255, qn295, qn352, qn353, qn533, qn999, qn1000, qn1023, qn6561, qn10000, qn20787, qn1000000, qn252645135, qn858993459, qn1000000000, qn1431655765, q_s1, q_s2, q_s3, q_s4, q_s5, iI_add, iI_sub, iI_mul, iI_neg, q_lt, q_le, q_eq, qz0, qz1, qz2, qz3, if_pos, if_neg, reduceIte, md_m5, md_m8, md_m9, md_m10, K.2.2.2.1, K.2.2.1, hck, e1]
    · rw [if_neg (show ¬ (a < n ∧ 48 ≤ b a ∧ b a ≤ 57) by omega)]
      rw [if_pos (by omega)] at e1
      simp (disch := omega) only [qn0, qn1, qn2, qn3, qn4, qn5, qn6, qn7, qn8, qn9, qn10, qn11, qn12, qn13, qn14, qn15, qn16, qn17, qn18, qn24, qn30, qn31, qn32, qn33, qn36, qn38, qn40, qn41, qn42, qn43, qn45, qn47, qn48, qn49, qn50, qn51, qn52, qn53, qn57, qn58, qn59, qn60, qn61, qn62, qn63, qn91, qn93, qn97, qn99, qn100, qn103, qn104, qn112, qn113, qn115, qn116, qn118, qn119, qn121, qn124, qn173, qn177, qn240, qn255, qn295, qn352, qn353, qn533, qn999, qn1000, qn1023, qn6561, qn10000, qn20787, qn1000000, qn252645135, qn858993459, qn1000000000, qn1431655765, q_s1, q_s2, q_s3, q_s4, q_s5, iI_add, iI_sub, iI_mul, iI_neg, q_lt, q_le, q_eq, qz0, qz1, qz2, qz3, if_pos, if_neg, reduceIte, md_m5, md_m8, md_m9, md_m10, K.2.2.2.1, K.2.2.1, hck, e1]
    · rw [if_pos (show a < n ∧ 48 ≤ b a ∧ b a ≤ 57 by omega)]
      rw [if_pos (by omega)] at e1
      simp (disch := omega) only [qn0, qn1, qn2, qn3, qn4, qn5, qn6, qn7, qn8, qn9, qn10, qn11, qn12, qn13, qn14, qn15, qn16, qn17, qn18, qn24, qn30, qn31, qn32, qn33, qn36, qn38, qn40, qn41, qn42, qn43, qn45, qn47, qn48, qn49, qn50, qn51, qn52, qn53, qn57, qn58, qn59, qn60, qn61, qn62, qn63, qn91, qn93, qn97, qn99, qn100, qn103, qn104, qn112, qn113, qn115, qn116, qn118, qn119, qn121, qn124, qn173, qn177, qn240, qn255, qn295, qn352, qn353, qn533, qn999, qn1000, qn1023, qn6561, qn10000, qn20787, qn1000000, qn252645135, qn858993459, qn1000000000, qn1431655765, q_s1, q_s2, q_s3, q_s4, q_s5, iI_add, iI_sub, iI_mul, iI_neg, q_lt, q_le, q_eq, qz0, qz1, qz2, qz3, if_pos, if_neg, reduceIte, md_m5, md_m8, md_m9, md_m10, K.2.2.2.1, K.2.2.1, hck, e1]
theorem m_takes (w : tp_w b n) (K : md_K r o b n M) (ha : a ≤ n) {c : Int} (hc : 1 ≤ c ∧ c ≤ 255) : f_X12_takes (md_m M a (-1)) (iI c) = some (if tp_l b n a = c then (iI 1, md_m M (tp_s b n a + 1) (-1)) else (iI 0, md_m M (tp_s b n a) (tp_s b n a : Nat))) := by
  have w1 := w.1
  have e1 := m_look (t := -1) w K ha
  have hl := tp_l_b (a := a) w
  have h1 := tp_s_b (b := b) ha
  unfold f_X12_takes
  by_cases d : tp_l b n a = c
  · have e2 : gs_up (md_m M (tp_s b n a) (-1)) 147 10 (iI ((tp_s b n a : Nat) + 1)) = md_m M (tp_s b n a + 1) (-1) := md_u10 (tp_s b n a + 1)
    rw [if_pos d]
    simp (disch := omega) only [qn0, qn1, qn2, qn3, qn4, qn5, qn6, qn7, qn8, qn9, qn10, qn11, qn12, qn13, qn14, qn15, qn16, qn17, qn18, qn24, qn30, qn31, qn32, qn33, qn36, qn38, qn40, qn41, qn42, qn43, qn45, qn47, qn48, qn49, qn50, qn51, qn52, qn53, qn57, qn58, qn59, qn60, qn61, qn62, qn63, qn91, qn93, qn97, qn99, qn100, qn103, qn104, qn112, qn113, qn115, qn116, qn118, qn119, qn121, qn124, qn173, qn177, qn240, qn255, qn295, qn352, qn353, qn533, qn999, qn1000, qn1023, qn6561, qn10000, qn20787, qn1000000, qn252645135, qn858993459, qn1000000000, qn1431655765, q_s1, q_s2, q_s3, q_s4, q_s5, iI_add, iI_sub, iI_mul, iI_neg, q_lt, q_le, q_eq, qz0, qz1, qz2, qz3, if_pos, if_neg, reduceIte, md_m11, e1, md_m10, e2]
  · have e2 := m_fails (M := M) (a := tp_s b n a)
    rw [if_neg d]
    simp (disch := omega) only [qn0, qn1, qn2, qn3, qn4, qn5, qn6, qn7, qn8, qn9, qn10, qn11, qn12, qn13, qn14, qn15, qn16, qn17, qn18, qn24, qn30, qn31, qn32, qn33, qn36, qn38, qn40, qn41, qn42, qn43, qn45, qn47, qn48, qn49, qn50, qn51, qn52, qn53, qn57, qn58, qn59, qn60, qn61, qn62, qn63, qn91, qn93, qn97, qn99, qn100, qn103, qn104, qn112, qn113, qn115, qn116, qn118, qn119, qn121, qn124, qn173, qn177, qn240, qn255, qn295, qn352, qn353, qn533, qn999, qn1000, qn1023, qn6561, qn10000, qn20787, qn1000000, qn252645135, qn858993459, qn1000000000, qn1431655765, q_s1, q_s2, q_s3, q_s4, q_s5, iI_add, iI_sub, iI_mul, iI_neg, q_lt, q_le, q_eq, qz0, qz1, qz2, qz3, if_pos, if_neg, reduceIte, md_m11, e1, e2]
theorem m_takes1 (ht : 0 ≤ t ∧ t ≤ 1000) (x : Int32) : f_X12_takes (md_m M a t) x = some (iI 0, md_m M a t) := by
  have e := m_fails1 (M := M) (a := a) ht
  unfold f_X12_takes
  simp (disch := omega) only [qn0, qn1, qn2, qn3, qn4, qn5, qn6, qn7, qn8, qn9, qn10, qn11, qn12, qn13, qn14, qn15, qn16, qn17, qn18, qn24, qn30, qn31, qn32, qn33, qn36, qn38, qn40, qn41, qn42, qn43, qn45, qn47, qn48, qn49, qn50, qn51, qn52, qn53, qn57, qn58, qn59, qn60, qn61, qn62, qn63, qn91, qn93, qn97, qn99, qn100, qn103, qn104, qn112, qn113, qn115, qn116, qn118, qn119, qn121, qn124, qn173, qn177, qn240, qn255, qn295, qn352, qn353, qn533, qn999, qn1000, qn1023, qn6561, qn10000, qn20787, qn1000000, qn252645135, qn858993459, qn1000000000, qn1431655765, q_s1, q_s2, q_s3, q_s4, q_s5, iI_add, iI_sub, iI_mul, iI_neg, q_lt, q_le, q_eq, qz0, qz1, qz2, qz3, if_pos, if_neg, reduceIte, md_m11, e]
end Tape2
