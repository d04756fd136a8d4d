/-! a WATCH read -/
def wt_go (b : Nat → Int) (n : Nat) : Nat → Nat → Nat → (Nat → Int) → Nat × Nat × (Nat → Int)
  | 0, i, a, g => (a, i, g)
  | d + 1, i, a, g => if 48 ≤ tp_l b n a ∧ tp_l b n a ≤ 57 then wt_go b n d (i + 1) (tp_s b n a + 1) (ma_su g i (tp_l b n a - 48)) else (tp_s b n a, i, g)
def wt_r (b : Nat → Int) (n : Nat) : Nat × Nat × (Nat → Int) := wt_go b n 9 0 0 (fun _ => 0)
/-- the FAULT of the TAPE as a WATCH -/
def wt_ft (b : Nat → Int) (n : Nat) (R : Nat × Nat × (Nat → Int)) : Int := if R.2.1 = 0 ∨ tp_l b n R.1 ≠ -1 then (tp_s b n R.1 : Nat) else -1
theorem wt_ft_y {b : Nat → Int} {n a i : Nat} {g : Nat → Int} (h : i = 0 ∨ tp_l b n a ≠ -1) : wt_ft b n (a, i, g) = (tp_s b n a : Nat) := if_pos h
theorem wt_ft_n {b : Nat → Int} {n a i : Nat} {g : Nat → Int} (h : ¬ (i = 0 ∨ tp_l b n a ≠ -1)) : wt_ft b n (a, i, g) = -1 := if_neg h
def wt_f (b : Nat → Int) (n : Nat) : Int := wt_ft b n (wt_r b n)
theorem wt_go_b {b : Nat → Int} {n : Nat} (w : tp_w b n) : ∀ (d i a : Nat) (g : Nat → Int), i + d = 9 → a ≤ n → (∀ j, j < i → 0 ≤ g j ∧ g j ≤ 9) → (wt_go b n d i a g).1 ≤ n ∧ i ≤ (wt_go b n d i a g).2.1 ∧ (wt_go b n d i a g).2.1 ≤ 9 ∧ ∀ j, j < (wt_go b n d i a g).2.1 → 0 ≤ (wt_go b n d i a g).2.2 j ∧ (wt_go b n d i a g).2.2 j ≤ 9 := by
  intro d
  induction d with
  | zero =>
    intro i a g hi ha hg
    simp only [wt_go]
    exact ⟨ha, by omega, by omega, hg⟩
  | succ d ih =>
    intro i a g hi ha hg
    have h1 := tp_s_b (b := b) ha
    have hl := tp_l_b (a := a) w
    simp only [wt_go]
    split
    · rename_i c
      have := ih (i + 1) (tp_s b n a + 1) (ma_su g i (tp_l b n a - 48)) (by omega) (by omega) (fun j hj => by
        by_cases e : j = i
        · rw [e, ma_su_eq]; omega
        · rw [ma_su_ne _ _ e]; exact hg j (by omega))
      exact ⟨this.1, by omega, this.2.2.1, this.2.2.2⟩
    · exact ⟨h1.2, Nat.le_refl _, by show i ≤ 9; omega, hg⟩
theorem wt_r_b {b : Nat → Int} {n : Nat} (w : tp_w b n) : (wt_r b n).1 ≤ n ∧ (wt_r b n).2.1 ≤ 9 ∧ ∀ j, j < (wt_r b n).2.1 → 0 ≤ (wt_r b n).2.2 j ∧ (wt_r b n).2.2 j ≤ 9 := by
  have h := wt_go_b w 9 0 0 (fun _ => 0) (by omega) (by omega) (fun j hj => by omega)
  exact ⟨h.1, h.2.2.1, h.2.2.2⟩
theorem wt_go_s {b : Nat → Int} {n : Nat} (w : tp_w b n) : ∀ (d i a : Nat) (g : Nat → Int), a ≤ n → (wt_go b n d i a g).2.1 < i + d → tp_s b n (wt_go b n d i a g).1 = (wt_go b n d i a g).1 := by
  intro d
  induction d with
  | zero => intro i a g ha h; simp only [wt_go] at h; omega
  | succ d ih =>
    intro i a g ha h
    have h1 := tp_s_b (b := b) ha
    have hl := tp_l_b (a := a) w
    simp only [wt_go] at h ⊢
    by_cases c : 48 ≤ tp_l b n a ∧ tp_l b n a ≤ 57
    · rw [if_pos c] at h ⊢
      exact ih (i + 1) (tp_s b n a + 1) _ (by omega) (by omega)
    · rw [if_neg c]
      exact tp_ss ha
section Watch
variable {b : Nat → Int} {n a r o : Nat} {t : Int} {M : gs_M} {s : Nat → Int} {T : Nat → Nat → Int} {V : ma_V}
theorem c_rew : f_X7_rewind M = some (tp_m M 0 (-1)) := by
  unfold f_X7_rewind
  simp (disch := omega) only [qn0, qn1, qn2, qn3, qn4, qn5, qn6, qn7, qn8, qn9, qn10, qn11, qn12, qn13, qn14, qn15, qn16, qn17, qn18, qn24, qn30, qn31, qn32, qn33, qn36, qn38, qn40, qn41, qn42, qn43, qn45, qn47, qn48, qn49, qn50, qn51, qn52, qn53, qn57, qn58, qn59, qn60, qn61, qn62, qn63, qn91, qn93, qn97, qn99, qn100, qn103, qn104, qn112, qn113, qn115, qn116, qn118, qn119, qn121, qn124, qn173, qn177, qn240, qn255, qn295, qn352, qn353, qn533, qn999, qn1000, qn1023, qn6561, qn10000, qn20787, qn1000000, qn252645135, qn858993459, qn1000000000, qn1431655765, q_s1, q_s2, q_s3, q_s4, q_s5, iI_add, iI_sub, iI_mul, iI_neg, q_lt, q_le, q_eq, qz0, qz1, qz2, qz3, if_pos, if_neg, reduceIte]
  rfl
theorem m_st2 (x y : Int32) : f_X12_starts_2 M x y = some (md_m (gs_up (gs_up (gs_up M 147 5 (nI 148)) 147 8 x) 147 9 y) 0 (-1)) := by
  unfold f_X12_starts_2
  simp (disch := omega) only [qn0, qn1, qn2, qn3, qn4, qn5, qn6, qn7, qn8, qn9, qn10, qn11, qn12, qn13, qn14, qn15, qn16, qn17, qn18, qn24, qn30, qn31, qn32, qn33, qn36, qn38, qn40, qn41, qn42, qn43, qn45, qn47, qn48, qn49, qn50, qn51, qn52, qn53, qn57, qn58, qn59, qn60, qn61, qn62, qn63, qn91, qn93, qn97, qn99, qn100, qn103, qn104, qn112, qn113, qn115, qn116, qn118, qn119, qn121, qn124, qn173, qn177, qn240, qn255, qn295, qn352, qn353, qn533, qn999, qn1000, qn1023, qn6561, qn10000, qn20787, qn1000000, qn252645135, qn858993459, qn1000000000, qn1431655765, q_s1, q_s2, q_s3, q_s4, q_s5, iI_add, iI_sub, iI_mul, iI_neg, q_lt, q_le, q_eq, qz0, qz1, qz2, qz3, if_pos, if_neg, reduceIte]
  rfl
theorem tp_of (w : ma_wT T) : tp_w (T 4) (T 3 7).toNat := by
  obtain ⟨f1, f2, f3, f4, f5, f6, f7, f8, f9, f10, f11, f12, f13, f14, f15, -⟩ := w
  exact ⟨by omega, fun i hi => f15 i (by omega)⟩
theorem tp_ofC (w : ma_wT T) (C : ma_C s T V M) : tp_K (T 4) (T 3 7).toNat M := by
  obtain ⟨f1, f2, f3, f4, f5, f6, f7, f8, f9, f10, f11, f12, -⟩ := w
  refine ⟨?_, fun i hi => C.by (by omega)⟩
  rw [C.ta]
  congr 1
  omega
theorem md_ofM (w : ma_wT T) (D : ma_M s T V M) : md_K 148 0 (T 4) (T 3 7).toNat (gs_up (gs_up (gs_up M 147 5 (nI 148)) 147 8 (iI 0)) 147 9 (M 147 6)) := by
  obtain ⟨f1, f2, f3, f4, f5, f6, f7, f8, f9, f10, f11, f12, -⟩ := w
  refine ⟨Or.inl ⟨rfl, by omega⟩, rfl, rfl, ?_, fun i hi => ?_⟩
  · rw [gs_up_eq, D.ta]
    congr 1
    omega
  · rw [Nat.zero_add, ma_row_ne _ _ _ _ _ (by decide), ma_row_ne _ _ _ _ _ (by decide), ma_row_ne _ _ _ _ _ (by decide)]
    exact D.by (by omega)
/-- the class's row: -1 where nothing is told -/
def wt_d (g : Nat → Int) (i j : Nat) : Int := if j < i then (if g j = 9 then -1 else g j) else -1
theorem wt_d_lt {g : Nat → Int} {i j : Nat} (h : j < i) : wt_d g i j = if g j = 9 then -1 else g j := if_pos h
theorem wt_d_ge {g : Nat → Int} {i j : Nat} (h : ¬ j < i) : wt_d g i j = -1 := if_neg h
theorem c_w6 (M : gs_M) (a : Nat) (t : Int) : ∃ N, l_X10_read_6 gs_FU (iI 0) (tp_m M a t) = some (iI 9, tp_m N a t) ∧ (∀ j, j < 9 → N 97 j = iI (-1)) ∧ ∀ r, r ≠ 97 → N r = M r := by
  obtain ⟨r, e, N, rfl, h1, h2⟩ := ma_up0 (fun f i (k : gs_M) => l_X10_read_6 f i (tp_m k a t)) 9
    (fun i k => (∀ j, j < i → k 97 j = iI (-1)) ∧ ∀ r, r ≠ 97 → k r = M r)
    (fun r => ∃ N, r = (iI (9 : Nat), tp_m N a t) ∧ (∀ j, j < 9 → N 97 j = iI (-1)) ∧ ∀ r, r ≠ 97 → N r = M r) M (by decide) ⟨fun j hj => by omega, fun _ _ => rfl⟩
    (by
      rintro f i k hi ⟨h1, h2⟩
      left
      have e4 : ∀ v, gs_wr (tp_m k a t) 97 9 (iI i) v = some (tp_m (gs_up k 97 i v) a t) := fun v => by
        rw [q_wrn i rfl hi (by decide), tp_ur _ (by decide)]
      refine ⟨gs_up k 97 i (iI (-1)), ?_, fun j hj => ?_, fun r hr => by rw [ma_row_ne _ _ _ _ _ hr, h2 r hr]⟩
      · simp only [l_X10_read_6]
        simp (disch := omega) only [qn0, qn1, qn2, qn3, qn4, qn5, qn6, qn7, qn8, qn9, qn10, qn11, qn12, qn13, qn14, qn15, qn16, qn17, qn18, qn24, qn30, qn31, qn32, qn33, qn36, qn38, qn40, qn41, qn42, qn43, qn45, qn47, qn48, qn49, qn50, qn51, qn52, qn53, qn57, qn58, qn59, qn60, qn61, qn62, qn63, qn91, qn93, qn97, qn99, qn100, qn103, qn104, qn112, qn113, qn115, qn116, qn118, qn119, qn121, qn124, qn173, qn177, qn240, qn255, qn295, qn352, qn353, qn533, qn999, qn1000, qn1023, qn6561, qn10000, qn20787, qn1000000, qn252645135, qn858993459, qn1000000000, qn1431655765, q_s1, q_s2, q_s3, q_s4, q_s5, iI_add, iI_sub, iI_mul, iI_neg, q_lt, q_le, q_eq, qz0, qz1, qz2, qz3, if_pos, if_neg, reduceIte, e4]
      · by_cases c : j = i
        · subst c
          rw [gs_up_eq]
        · rw [ma_cell_ne _ _ _ _ _ _ (by omega)]
          exact h1 j (by omega))
    (by
      rintro f k ⟨h1, h2⟩
      refine ⟨_, ?_, k, rfl, h1, h2⟩
      simp only [l_X10_read_6]
      simp (disch := omega) only [qn0, qn1, qn2, qn3, qn4, qn5, qn6, qn7, qn8, qn9, qn10, qn11, qn12, qn13, qn14, qn15, qn16, qn17, qn18, qn24, qn30, qn31, qn32, qn33, qn36, qn38, qn40, qn41, qn42, qn43, qn45, qn47, qn48, qn49, qn50, qn51, qn52, qn53, qn57, qn58, qn59, qn60, qn61, qn62, qn63, qn91, qn93, qn97, qn99, qn100, qn103, qn104, qn112, qn113, qn115, qn116, qn118, qn119, qn121, qn124, qn173, qn177, qn240, qn255, qn295, qn352, qn353, qn533, qn999, qn1000, qn1023, qn6561, qn10000, qn20787, qn1000000, qn252645135, qn858993459, qn1000000000, qn1431655765, q_s1, q_s2, q_s3, q_s4, q_s5, iI_add, iI_sub, iI_mul, iI_neg, q_lt, q_le, q_eq, qz0, qz1, qz2, qz3, if_pos, if_neg, reduceIte])
  exact ⟨N, e, h1, h2⟩
theorem c_w27 (w : tp_w b n) : ∀ (d i a f : Nat) (g : Nat → Int) (N : gs_M), tp_K b n N → i + d = 9 → a ≤ n → d < f → (∀ j, j < 9 → N 97 j = iI (wt_d g i j)) → ∃ N1, l_X10_read_27 f (iI i) (tp_m N a (-1)) = some (iI ((wt_go b n d i a g).2.1 : Nat), tp_m N1 (wt_go b n d i a g).1 (-1)) ∧ (∀ j, j < 9 → N1 97 j = iI (wt_d (wt_go b n d i a g).2.2 (wt_go b n d i a g).2.1 j)) ∧ ∀ r, r ≠ 97 → N1 r = N r := by
  have w1 := w.1
  intro d
  induction d with
  | zero =>
    intro i a f g N K hi ha hf hN
    obtain ⟨f, rfl⟩ : ∃ k, f = k + 1 := ⟨f - 1, by omega⟩
    refine ⟨N, ?_, hN, fun _ _ => rfl⟩
    simp only [l_X10_read_27, wt_go]
    simp (disch := omega) only [qn0, qn1, qn2, qn3, qn4, qn5, qn6, qn7, qn8, qn9, qn10, qn11, qn12, qn13, qn14, qn15, qn16, qn17, qn18, qn24, qn30, qn31, qn32, qn33, qn36, qn38, qn40, qn41, qn42, qn43, qn45, qn47, qn48, qn49, qn50, qn51, qn52, qn53, qn57, qn58, qn59, qn60, qn61, qn62, qn63, qn91, qn93, qn97, qn99, qn100, qn103, qn104, qn112, qn113, qn115, qn116, qn118, qn119, qn121, qn124, qn173, qn177, qn240, qn255, qn295, qn352, qn353, qn533, qn999, qn1000, qn1023, qn6561, qn10000, qn20787, qn1000000, qn252645135, qn858993459, qn1000000000, qn1431655765, q_s1, q_s2, q_s3, q_s4, q_s5, iI_add, iI_sub, iI_mul, iI_neg, q_lt, q_le, q_eq, qz0, qz1, qz2, qz3, if_pos, if_neg, reduceIte]
  | succ d ih =>
    intro i a f g N K hi ha hf hN
    obtain ⟨f, rfl⟩ : ∃ k, f = k + 1 := ⟨f - 1, by omega⟩
    have h1 := tp_s_b (b := b) ha
    have hl := tp_l_b (a := a) w
    have e1 := c_look (t := -1) w K ha
    have e2 := c_isD (z := tp_l b n a) (by omega)
    have e3 := c_look (t := -1) w K h1.2
    rw [tp_ll ha, tp_ss ha] at e3
    by_cases c : 48 ≤ tp_l b n a ∧ tp_l b n a ≤ 57
    · rw [if_pos c] at e2
      have hz : wt_go b n (d + 1) i a g = wt_go b n d (i + 1) (tp_s b n a + 1) (ma_su g i (tp_l b n a - 48)) := by
        simp only [wt_go]
        rw [if_pos c]
      rw [hz]
      have e4 : ∀ v, gs_wr (tp_m N (tp_s b n a) (-1)) 97 9 (iI i) v = some (tp_m (gs_up N 97 i v) (tp_s b n a) (-1)) := fun v => by
        rw [q_wrn i rfl (by omega) (by decide), tp_ur _ (by decide)]
      have K1 : ∀ v, tp_K b n (gs_up N 97 i v) := fun v => K.up v (by decide) (by decide)
      have e5 := fun v => c_step1 (t := -1) w (K1 v) (a := tp_s b n a) (by omega)
      obtain ⟨N1, e6, h6, h7⟩ := ih (i + 1) (tp_s b n a + 1) f (ma_su g i (tp_l b n a - 48)) (gs_up N 97 i (iI (if tp_l b n a - 48 = 9 then -1 else tp_l b n a - 48))) (K1 _) (by omega) (by omega) (by omega) (fun j hj => by
        rcases (by omega : j = i ∨ j < i ∨ i < j) with c2 | c2 | c2
        · subst c2
          rw [gs_up_eq, wt_d_lt (by omega), ma_su_eq]
        · rw [ma_cell_ne _ _ _ _ _ _ (by omega), hN j hj, wt_d_lt (show j < i + 1 by omega), wt_d_lt c2, ma_su_ne _ _ (by omega)]
        · rw [ma_cell_ne _ _ _ _ _ _ (by omega), hN j hj, wt_d_ge (show ¬ j < i + 1 by omega), wt_d_ge (by omega)])
      refine ⟨N1, ?_, h6, fun r hr => by rw [h7 r hr, ma_row_ne _ _ _ _ _ hr]⟩
      rw [← e6]
      simp only [l_X10_read_27]
      rcases (by omega : tp_l b n a - 48 = 9 ∨ tp_l b n a - 48 ≠ 9) with c3 | c3 <;> simp (disch := omega) only [qn0, qn1, qn2, qn3, qn4, qn5, qn6, qn7, qn8, qn9, qn10, qn11, qn12, qn13, qn14, qn15, qn16, qn17, qn18, qn24, qn30, qn31, qn32, qn33, qn36, qn38, qn40, qn41, qn42, qn43, qn45, qn47, qn48, qn49, qn50, qn51, qn52, qn53, qn57, qn58, qn59, qn60, qn61, qn62, qn63, qn91, qn93, qn97, qn99, qn100, qn103, qn104, qn112, qn113, qn115, qn116, qn118, qn119, qn121, qn124, qn173, qn177, qn240, qn255, qn295, qn352, qn353, qn533, qn999, qn1000, qn1023, qn6561, qn10000, qn20787, qn1000000, qn252645135, qn858993459, qn1000000000, qn1431655765, q_s1, q_s2, q_s3, q_s4, q_s5, iI_add, iI_sub, iI_mul, iI_neg, q_lt, q_le, q_eq, qz0, qz1, qz2, qz3, if_pos, if_neg, reduceIte, e1, e2, e3, e4, e5] <;> rfl
    · rw [if_neg c] at e2
      have hz : wt_go b n (d + 1) i a g = (tp_s b n a, i, g) := by
        simp only [wt_go]
        rw [if_neg c]
      rw [hz]
      refine ⟨N, ?_, hN, fun _ _ => rfl⟩
      simp only [l_X10_read_27]
      simp (disch := omega) only [qn0, qn1, qn2, qn3, qn4, qn5, qn6, qn7, qn8, qn9, qn10, qn11, qn12, qn13, qn14, qn15, qn16, qn17, qn18, qn24, qn30, qn31, qn32, qn33, qn36, qn38, qn40, qn41, qn42, qn43, qn45, qn47, qn48, qn49, qn50, qn51, qn52, qn53, qn57, qn58, qn59, qn60, qn61, qn62, qn63, qn91, qn93, qn97, qn99, qn100, qn103, qn104, qn112, qn113, qn115, qn116, qn118, qn119, qn121, qn124, qn173, qn177, qn240, qn255, qn295, qn352, qn353, qn533, qn999, qn1000, qn1023, qn6561, qn10000, qn20787, qn1000000, qn252645135, qn858993459, qn1000000000, qn1431655765, q_s1, q_s2, q_s3, q_s4, q_s5, iI_add, iI_sub, iI_mul, iI_neg, q_lt, q_le, q_eq, qz0, qz1, qz2, qz3, if_pos, if_neg, reduceIte, e1, e2]
theorem c_watch (w : tp_w b n) (K : tp_K b n M) : ∃ N a, f_X10_read M = some (iI (wt_f b n), tp_m N a (wt_f b n)) ∧ a ≤ n ∧ (∀ j, j < 9 → N 97 j = iI (wt_d (wt_r b n).2.2 (wt_r b n).2.1 j)) ∧ ∀ r, r ≠ 97 → N r = M r := by
  have w1 := w.1
  obtain ⟨N0, e1, h1, h2⟩ := c_w6 M 0 (-1)
  have K0 : tp_K b n N0 := ⟨by rw [h2 1 (by decide)]; exact K.1, fun i hi => by rw [h2 2 (by decide)]; exact K.2 i hi⟩
  obtain ⟨N1, e2, h3, h4⟩ := c_w27 w 9 0 0 gs_FU (fun _ => 0) N0 K0 (by omega) (by omega) (by decide) (fun j hj => by rw [h1 j hj]; rfl)
  have hb := wt_r_b w
  rw [show wt_go b n 9 0 0 (fun _ => 0) = wt_r b n from rfl] at e2 h3
  have e2' : l_X10_read_27 gs_FU (iI 0) (tp_m N0 0 (-1)) = some (iI ((wt_r b n).2.1 : Nat), tp_m N1 (wt_r b n).1 (-1)) := e2
  have K1 : tp_K b n N1 := ⟨by rw [h4 1 (by decide)]; exact K0.1, fun i hi => by rw [h4 2 (by decide)]; exact K0.2 i hi⟩
  have hs := tp_s_b (b := b) hb.1
  have hf : ∀ r, r ≠ 97 → N1 r = M r := fun r hr => by rw [h4 r hr, h2 r hr]
  have hss : (wt_r b n).2.1 < 9 → tp_s b n (wt_r b n).1 = (wt_r b n).1 := fun h => wt_go_s w 9 0 0 (fun _ => 0) (by omega) h
  unfold f_X10_read wt_f
  obtain ⟨⟨Ra, Ri, Rg⟩, hR⟩ : ∃ R, wt_r b n = R := ⟨_, rfl⟩
  rw [hR] at e2' h3 hb hs hss ⊢
  simp only at e2' h3 hb hs hss
  have e3 := c_look (t := -1) w K1 hb.1
  have hl := tp_l_b (a := Ra) w
  by_cases c0 : Ri = 0
  · have e5 := c_fail (M := N1) (a := Ra)
    have e6 : tp_s b n Ra = Ra := hss (by omega)
    rw [wt_ft_y (Or.inl c0), e6]
    refine ⟨N1, Ra, ?_, hb.1, h3, hf⟩
    simp (disch := omega) only [qn0, qn1, qn2, qn3, qn4, qn5, qn6, qn7, qn8, qn9, qn10, qn11, qn12, qn13, qn14, qn15, qn16, qn17, qn18, qn24, qn30, qn31, qn32, qn33, qn36, qn38, qn40, qn41, qn42, qn43, qn45, qn47, qn48, qn49, qn50, qn51, qn52, qn53, qn57, qn58, qn59, qn60, qn61, qn62, qn63, qn91, qn93, qn97, qn99, qn100, qn103, qn104, qn112, qn113, qn115, qn116, qn118, qn119, qn121, qn124, qn173, qn177, qn240, qn255, qn295, qn352, qn353, qn533, qn999, qn1000, qn1023, qn6561, qn10000, qn20787, qn1000000, qn252645135, qn858993459, qn1000000000, qn1431655765, q_s1, q_s2, q_s3, q_s4, q_s5, iI_add, iI_sub, iI_mul, iI_neg, q_lt, q_le, q_eq, qz0, qz1, qz2, qz3, if_pos, if_neg, reduceIte, c_rew, e1, e2', e5, f_X7_firstFault, tp_m3]
  · have e5 := c_fail (M := N1) (a := tp_s b n Ra)
    by_cases c1 : tp_l b n Ra = -1
    · rw [wt_ft_n (by omega)]
      refine ⟨N1, tp_s b n Ra, ?_, hs.2, h3, hf⟩
      simp (disch := omega) only [qn0, qn1, qn2, qn3, qn4, qn5, qn6, qn7, qn8, qn9, qn10, qn11, qn12, qn13, qn14, qn15, qn16, qn17, qn18, qn24, qn30, qn31, qn32, qn33, qn36, qn38, qn40, qn41, qn42, qn43, qn45, qn47, qn48, qn49, qn50, qn51, qn52, qn53, qn57, qn58, qn59, qn60, qn61, qn62, qn63, qn91, qn93, qn97, qn99, qn100, qn103, qn104, qn112, qn113, qn115, qn116, qn118, qn119, qn121, qn124, qn173, qn177, qn240, qn255, qn295, qn352, qn353, qn533, qn999, qn1000, qn1023, qn6561, qn10000, qn20787, qn1000000, qn252645135, qn858993459, qn1000000000, qn1431655765, q_s1, q_s2, q_s3, q_s4, q_s5, iI_add, iI_sub, iI_mul, iI_neg, q_lt, q_le, q_eq, qz0, qz1, qz2, qz3, if_pos, if_neg, reduceIte, c_rew, e1, e2', e3, f_X7_firstFault, tp_m3]
    · rw [wt_ft_y (Or.inr c1)]
      refine ⟨N1, tp_s b n Ra, ?_, hs.2, h3, hf⟩
      simp (disch := omega) only [qn0, qn1, qn2, qn3, qn4, qn5, qn6, qn7, qn8, qn9, qn10, qn11, qn12, qn13, qn14, qn15, qn16, qn17, qn18, qn24, qn30, qn31, qn32, qn33, qn36, qn38, qn40, qn41, qn42, qn43, qn45, qn47, qn48, qn49, qn50, qn51, qn52, qn53, qn57, qn58, qn59, qn60, qn61, qn62, qn63, qn91, qn93, qn97, qn99, qn100, qn103, qn104, qn112, qn113, qn115, qn116, qn118, qn119, qn121, qn124, qn173, qn177, qn240, qn255, qn295, qn352, qn353, qn533, qn999, qn1000, qn1023, qn6561, qn10000, qn20787, qn1000000, qn252645135, qn858993459, qn1000000000, qn1431655765, q_s1, q_s2, q_s3, q_s4, q_s5, iI_add, iI_sub, iI_mul, iI_neg, q_lt, q_le, q_eq, qz0, qz1, qz2, qz3, if_pos, if_neg, reduceIte, c_rew, e1, e2', e3, e5, f_X7_firstFault, tp_m3]
/-- what the model's reading leaves alone -/
def wt_e (N N1 : gs_M) : Prop := (∀ r, r ≠ 156 → r ≠ 157 → N1 r = N r) ∧ (∀ j, j < 36 → N1 156 j = N 156 j) ∧ ∀ j, j ≠ 4 → N1 157 j = N 157 j
theorem m_w15 (w : tp_w b n) : ∀ (d i a f : Nat) (g : Nat → Int) (N : gs_M), md_K r o b n N → i + d = 9 → a ≤ n → d + 1 < f → (∀ j, j < i → N 156 (36 + j) = iI (g j)) → ∃ N1 a', l_X12_readWatch_15 f (iI i) (md_m N a (-1)) = some (md_m N1 a' (wt_ft b n (wt_go b n d i a g))) ∧ wt_e N N1 ∧ (wt_ft b n (wt_go b n d i a g) = -1 → N1 157 4 = iI ((wt_go b n d i a g).2.1 : Nat) ∧ ∀ j, j < (wt_go b n d i a g).2.1 → N1 156 (36 + j) = iI ((wt_go b n d i a g).2.2 j)) := by
  have w1 := w.1
  intro d
  induction d with
  | zero =>
    intro i a f g N K hi ha hf hN
    obtain ⟨f, rfl⟩ : ∃ k, f = k + 1 := ⟨f - 1, by omega⟩
    have h1 := tp_s_b (b := b) ha
    have hl := tp_l_b (a := a) w
    have e1 := m_look (t := -1) w K ha
    have e3 := m_look (t := -1) w K h1.2
    rw [tp_ll ha, tp_ss ha] at e3
    have e2 := m_isD (t := -1) w K h1.2
    have e5 := m_fails (M := N) (a := tp_s b n a)
    rw [show wt_go b n 0 i a g = (a, i, g) from rfl]
    have i9 : i = 9 := by omega
    by_cases c : tp_l b n a = -1
    · rw [wt_ft_n (by omega)]
      have e4 : ∀ v, gs_wr (md_m N (tp_s b n a) (-1)) 157 5 (iI 4) v = some (md_m (gs_up N 157 4 v) (tp_s b n a) (-1)) := fun v => by
        rw [q_wrn (z := 4) 4 rfl (by decide) (by decide), md_ur _ (Or.inl (by decide))]
      refine ⟨gs_up N 157 4 (iI i), tp_s b n a, ?_, ⟨fun r r1 r2 => ma_row_ne _ _ _ _ _ r2, fun j _ => by rw [ma_row_ne _ _ _ _ _ (by decide)], fun j hj => ma_cell_ne _ _ _ _ _ _ (by omega)⟩, fun _ => ⟨gs_up_eq _ _ _ _, fun j hj => by rw [ma_row_ne _ _ _ _ _ (by decide)]; exact hN j hj⟩⟩
      simp only [l_X12_readWatch_15]
      simp (disch := omega) only [qn0, qn1, qn2, qn3, qn4, qn5, qn6, qn7, qn8, qn9, qn10, qn11, qn12, qn13, qn14, qn15, qn16, qn17, qn18, qn24, qn30, qn31, qn32, qn33, qn36, qn38, qn40, qn41, qn42, qn43, qn45, qn47, qn48, qn49, qn50, qn51, qn52, qn53, qn57, qn58, qn59, qn60, qn61, qn62, qn63, qn91, qn93, qn97, qn99, qn100, qn103, qn104, qn112, qn113, qn115, qn116, qn118, qn119, qn121, qn124, qn173, qn177, qn240, qn255, qn295, qn352, qn353, qn533, qn999, qn1000, qn1023, qn6561, qn10000, qn20787, qn1000000, qn252645135, qn858993459, qn1000000000, qn1431655765, q_s1, q_s2, q_s3, q_s4, q_s5, iI_add, iI_sub, iI_mul, iI_neg, q_lt, q_le, q_eq, qz0, qz1, qz2, qz3, if_pos, if_neg, reduceIte, md_m11, e1, e4]
    · rw [wt_ft_y (Or.inr c)]
      refine ⟨N, tp_s b n a, ?_, ⟨fun _ _ _ => rfl, fun _ _ => rfl, fun _ _ => rfl⟩, fun h => by omega⟩
      simp only [l_X12_readWatch_15]
      by_cases c2 : tp_s b n a < n ∧ 48 ≤ b (tp_s b n a) ∧ b (tp_s b n a) ≤ 57
      · rw [if_pos c2] at e2
        simp (disch := omega) only [qn0, qn1, qn2, qn3, qn4, qn5, qn6, qn7, qn8, qn9, qn10, qn11, qn12, qn13, qn14, qn15, qn16, qn17, qn18, qn24, qn30, qn31, qn32, qn33, qn36, qn38, qn40, qn41, qn42, qn43, qn45, qn47, qn48, qn49, qn50, qn51, qn52, qn53, qn57, qn58, qn59, qn60, qn61, qn62, qn63, qn91, qn93, qn97, qn99, qn100, qn103, qn104, qn112, qn113, qn115, qn116, qn118, qn119, qn121, qn124, qn173, qn177, qn240, qn255, qn295, qn352, qn353, qn533, qn999, qn1000, qn1023, qn6561, qn10000, qn20787, qn1000000, qn252645135, qn858993459, qn1000000000, qn1431655765, q_s1, q_s2, q_s3, q_s4, q_s5, iI_add, iI_sub, iI_mul, iI_neg, q_lt, q_le, q_eq, qz0, qz1, qz2, qz3, if_pos, if_neg, reduceIte, md_m11, e1, e3, e2, e5]
      · rw [if_neg c2] at e2
        simp (disch := omega) only [qn0, qn1, qn2, qn3, qn4, qn5, qn6, qn7, qn8, qn9, qn10, qn11, qn12, qn13, qn14, qn15, qn16, qn17, qn18, qn24, qn30, qn31, qn32, qn33, qn36, qn38, qn40, qn41, qn42, qn43, qn45, qn47, qn48, qn49, qn50, qn51, qn52, qn53, qn57, qn58, qn59, qn60, qn61, qn62, qn63, qn91, qn93, qn97, qn99, qn100, qn103, qn104, qn112, qn113, qn115, qn116, qn118, qn119, qn121, qn124, qn173, qn177, qn240, qn255, qn295, qn352, qn353, qn533, qn999, qn1000, qn1023, qn6561, qn10000, qn20787, qn1000000, qn252645135, qn858993459, qn1000000000, qn1431655765, q_s1, q_s2, q_s3, q_s4, q_s5, iI_add, iI_sub, iI_mul, iI_neg, q_lt, q_le, q_eq, qz0, qz1, qz2, qz3, if_pos, if_neg, reduceIte, md_m11, e1, e3, e2, e5]
  | succ d ih =>
    intro i a f g N K hi ha hf hN
    obtain ⟨f, rfl⟩ : ∃ k, f = k + 1 := ⟨f - 1, by omega⟩
    have h1 := tp_s_b (b := b) ha
    have hl := tp_l_b (a := a) w
    have e1 := m_look (t := -1) w K ha
    have e3 := m_look (t := -1) w K h1.2
    rw [tp_ll ha, tp_ss ha] at e3
    have e2 := m_isD (t := -1) w K h1.2
    have e5 := m_fails (M := N) (a := tp_s b n a)
    by_cases c : 48 ≤ tp_l b n a ∧ tp_l b n a ≤ 57
    · have hz : wt_go b n (d + 1) i a g = wt_go b n d (i + 1) (tp_s b n a + 1) (ma_su g i (tp_l b n a - 48)) := by
        simp only [wt_go]
        rw [if_pos c]
      rw [hz]
      rw [if_pos (by omega)] at e2
      have e4 : ∀ v, gs_wr (md_m N (tp_s b n a) (-1)) 156 45 (iI (36 + i)) v = some (md_m (gs_up N 156 (36 + i) v) (tp_s b n a) (-1)) := fun v => by
        rw [q_wrn (36 + i) (by omega) (by omega) (by decide), md_ur _ (Or.inl (by decide))]
      have e6 : ∀ K : gs_M, gs_up (md_m K (tp_s b n a) (-1)) 147 10 (iI ((tp_s b n a : Nat) + 1)) = md_m K (tp_s b n a + 1) (-1) := fun K => md_u10 (tp_s b n a + 1)
      obtain ⟨N1, a', e7, ⟨g1, g2, g3⟩, h8⟩ := ih (i + 1) (tp_s b n a + 1) f (ma_su g i (tp_l b n a - 48)) (gs_up N 156 (36 + i) (iI (tp_l b n a - 48))) (K.up _ (by omega)) (by omega) (by omega) (by omega) (fun j hj => by
        rcases (by omega : j = i ∨ j < i) with c2 | c2
        · subst c2
          rw [gs_up_eq, ma_su_eq]
        · rw [ma_cell_ne _ _ _ _ _ _ (by omega), ma_su_ne _ _ (by omega)]
          exact hN j c2)
      refine ⟨N1, a', ?_, ⟨fun r r1 r2 => by rw [g1 r r1 r2, ma_row_ne _ _ _ _ _ r1], fun j hj => by rw [g2 j hj, ma_cell_ne _ _ _ _ _ _ (by omega)], fun j hj => by rw [g3 j hj, ma_row_ne _ _ _ _ _ (by decide)]⟩, h8⟩
      rw [← e7]
      simp only [l_X12_readWatch_15]
      rcases (by omega : i = 0 ∨ 0 < i) with c3 | c3
      · simp (disch := omega) only [qn0, qn1, qn2, qn3, qn4, qn5, qn6, qn7, qn8, qn9, qn10, qn11, qn12, qn13, qn14, qn15, qn16, qn17, qn18, qn24, qn30, qn31, qn32, qn33, qn36, qn38, qn40, qn41, qn42, qn43, qn45, qn47, qn48, qn49, qn50, qn51, qn52, qn53, qn57, qn58, qn59, qn60, qn61, qn62, qn63, qn91, qn93, qn97, qn99, qn100, qn103, qn104, qn112, qn113, qn115, qn116, qn118, qn119, qn121, qn124, qn173, qn177, qn240, qn255, qn295, qn352, qn353, qn533, qn999, qn1000, qn1023, qn6561, qn10000, qn20787, qn1000000, qn252645135, qn858993459, qn1000000000, qn1431655765, q_s1, q_s2, q_s3, q_s4, q_s5, iI_add, iI_sub, iI_mul, iI_neg, q_lt, q_le, q_eq, qz0, qz1, qz2, qz3, if_pos, if_neg, reduceIte, md_m11, md_m10, e1, e2, e4, e6]
        rfl
      · simp (disch := omega) only [qn0, qn1, qn2, qn3, qn4, qn5, qn6, qn7, qn8, qn9, qn10, qn11, qn12, qn13, qn14, qn15, qn16, qn17, qn18, qn24, qn30, qn31, qn32, qn33, qn36, qn38, qn40, qn41, qn42, qn43, qn45, qn47, qn48, qn49, qn50, qn51, qn52, qn53, qn57, qn58, qn59, qn60, qn61, qn62, qn63, qn91, qn93, qn97, qn99, qn100, qn103, qn104, qn112, qn113, qn115, qn116, qn118, qn119, qn121, qn124, qn173, qn177, qn240, qn255, qn295, qn352, qn353, qn533, qn999, qn1000, qn1023, qn6561, qn10000, qn20787, qn1000000, qn252645135, qn858993459, qn1000000000, qn1431655765, q_s1, q_s2, q_s3, q_s4, q_s5, iI_add, iI_sub, iI_mul, iI_neg, q_lt, q_le, q_eq, qz0, qz1, qz2, qz3, if_pos, if_neg, reduceIte, md_m11, md_m10, e1, e3, e2, e4, e6]
        rfl
    · have hz : wt_go b n (d + 1) i a g = (tp_s b n a, i, g) := by
        simp only [wt_go]
        rw [if_neg c]
      rw [hz]
      rw [if_neg (by omega)] at e2
      by_cases c2 : i = 0 ∨ tp_l b n a ≠ -1
      · rw [wt_ft_y (by rw [tp_ll ha]; exact c2), tp_ss ha]
        refine ⟨N, tp_s b n a, ?_, ⟨fun _ _ _ => rfl, fun _ _ => rfl, fun _ _ => rfl⟩, fun h => by omega⟩
        simp only [l_X12_readWatch_15]
        rcases (by omega : i = 0 ∨ (0 < i ∧ tp_l b n a ≠ -1)) with c3 | c3
        · simp (disch := omega) only [qn0, qn1, qn2, qn3, qn4, qn5, qn6, qn7, qn8, qn9, qn10, qn11, qn12, qn13, qn14, qn15, qn16, qn17, qn18, qn24, qn30, qn31, qn32, qn33, qn36, qn38, qn40, qn41, qn42, qn43, qn45, qn47, qn48, qn49, qn50, qn51, qn52, qn53, qn57, qn58, qn59, qn60, qn61, qn62, qn63, qn91, qn93, qn97, qn99, qn100, qn103, qn104, qn112, qn113, qn115, qn116, qn118, qn119, qn121, qn124, qn173, qn177, qn240, qn255, qn295, qn352, qn353, qn533, qn999, qn1000, qn1023, qn6561, qn10000, qn20787, qn1000000, qn252645135, qn858993459, qn1000000000, qn1431655765, q_s1, q_s2, q_s3, q_s4, q_s5, iI_add, iI_sub, iI_mul, iI_neg, q_lt, q_le, q_eq, qz0, qz1, qz2, qz3, if_pos, if_neg, reduceIte, md_m11, e1, e2, e5]
        · simp (disch := omega) only [qn0, qn1, qn2, qn3, qn4, qn5, qn6, qn7, qn8, qn9, qn10, qn11, qn12, qn13, qn14, qn15, qn16, qn17, qn18, qn24, qn30, qn31, qn32, qn33, qn36, qn38, qn40, qn41, qn42, qn43, qn45, qn47, qn48, qn49, qn50, qn51, qn52, qn53, qn57, qn58, qn59, qn60, qn61, qn62, qn63, qn91, qn93, qn97, qn99, qn100, qn103, qn104, qn112, qn113, qn115, qn116, qn118, qn119, qn121, qn124, qn173, qn177, qn240, qn255, qn295, qn352, qn353, qn533, qn999, qn1000, qn1023, qn6561, qn10000, qn20787, qn1000000, qn252645135, qn858993459, qn1000000000, qn1431655765, q_s1, q_s2, q_s3, q_s4, q_s5, iI_add, iI_sub, iI_mul, iI_neg, q_lt, q_le, q_eq, qz0, qz1, qz2, qz3, if_pos, if_neg, reduceIte, md_m11, e1, e3, e2, e5]
      · rw [wt_ft_n (by rw [tp_ll ha]; exact c2)]
        have e4 : ∀ v, gs_wr (md_m N (tp_s b n a) (-1)) 157 5 (iI 4) v = some (md_m (gs_up N 157 4 v) (tp_s b n a) (-1)) := fun v => by
          rw [q_wrn (z := 4) 4 rfl (by decide) (by decide), md_ur _ (Or.inl (by decide))]
        refine ⟨gs_up N 157 4 (iI i), tp_s b n a, ?_, ⟨fun r r1 r2 => ma_row_ne _ _ _ _ _ r2, fun j _ => by rw [ma_row_ne _ _ _ _ _ (by decide)], fun j hj => ma_cell_ne _ _ _ _ _ _ (by omega)⟩, fun _ => ⟨gs_up_eq _ _ _ _, fun j hj => by rw [ma_row_ne _ _ _ _ _ (by decide)]; exact hN j hj⟩⟩
        simp only [l_X12_readWatch_15]
        simp (disch := omega) only [qn0, qn1, qn2, qn3, qn4, qn5, qn6, qn7, qn8, qn9, qn10, qn11, qn12, qn13, qn14, qn15, qn16, qn17, qn18, qn24, qn30, qn31, qn32, qn33, qn36, qn38, qn40, qn41, qn42, qn43, qn45, qn47, qn48, qn49, qn50, qn51, qn52, qn53, qn57, qn58, qn59, qn60, qn61, qn62, qn63, qn91, qn93, qn97, qn99, qn100, qn103, qn104, qn112, qn113, qn115, qn116, qn118, qn119, qn121, qn124, qn173, qn177, qn240, qn255, qn295, qn352, qn353, qn533, qn999, qn1000, qn1023, qn6561, qn10000, qn20787, qn1000000, qn252645135, qn858993459, qn1000000000, qn1431655765, q_s1, q_s2, q_s3, q_s4, q_s5, iI_add, iI_sub, iI_mul, iI_neg, q_lt, q_le, q_eq, qz0, qz1, qz2, qz3, if_pos, if_neg, reduceIte, md_m11, e1, e4]
theorem m_watch (w : ma_wT T) (D : ma_M s T V M) : ∃ N a', f_X12_readWatch M = some (md_m N a' (wt_f (T 4) (T 3 7).toNat)) ∧ wt_e (gs_up (gs_up (gs_up M 147 5 (nI 148)) 147 8 (iI 0)) 147 9 (M 147 6)) N ∧ (wt_f (T 4) (T 3 7).toNat = -1 → N 157 4 = iI ((wt_r (T 4) (T 3 7).toNat).2.1 : Nat) ∧ ∀ j, j < (wt_r (T 4) (T 3 7).toNat).2.1 → N 156 (36 + j) = iI ((wt_r (T 4) (T 3 7).toNat).2.2 j)) := by
  have wb := tp_of w
  have K := md_ofM w D
  obtain ⟨N1, a', e1, g1, h1⟩ := m_w15 wb 9 0 0 gs_FU (fun _ => 0) _ K (by omega) (by omega) (by decide) (fun j hj => by omega)
  refine ⟨N1, a', ?_, g1, fun hf => h1 hf⟩
  unfold f_X12_readWatch
  rw [qn0, m_st2, gs_s1]
  exact e1
end Watch
