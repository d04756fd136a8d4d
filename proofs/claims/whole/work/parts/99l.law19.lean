/-! the model reads a LAW: atoms, terms, sums -/
def lm_m (N : gs_M) (x : Int32) (a : Nat) (t : Int) : gs_M := md_m (gs_up N 147 12 x) a t
def lm_any (_ : Int32) : Prop := True
def lm_tr (v : Int32) : Prop := v = iI 0 ∨ v = iI 1
def lr_mg (b : Nat → Int) (n : Nat) (N : gs_M) (e : Nat → Int) (dp : Nat) (Q : Int32 → Prop) (F : gs_M → Option (Int32 × gs_M)) (A : Nat → lr_R) : Prop := ∀ a, a ≤ n → (∀ u, A a = .inl u → ∃ v x a', Q v ∧ F (lm_m N (iI (dp : Int)) a (-1)) = some (v, lm_m N x a' (u : Nat))) ∧ ∀ q, A a = .inr q → F (lm_m N (iI (dp : Int)) a (-1)) = some (iI (q.2.2 e), lm_m N (iI (dp : Int)) q.1 (-1))
def lm_e (e : Nat → Int) (N : gs_M) : Prop := (∀ i, i < 6 → -2147483648 ≤ e i ∧ e i ≤ 2147483647) ∧ ∀ z : Int, lr_ix z ≠ -1 → N 151 z.toNat = iI (e (lr_ix z).toNat)
theorem q_am2 : ∀ z : Nat, z < 256 → f_X12_isAmong_2 (iI z) = some (if lr_ix z = -1 then iI 0 else iI 1) := by decide +kernel
theorem q_am2n : f_X12_isAmong_2 (iI (-1)) = some (iI 0) := by decide +kernel
theorem q_am1 : ∀ z : Nat, z < 256 → f_X12_isAmong (iI z) = some (if z = 121 ∨ z = 118 then iI 1 else iI 0) := by decide +kernel
theorem q_am1n : f_X12_isAmong (iI (-1)) = some (iI 0) := by decide +kernel
theorem lm_num {v : lr_V} {e : Nat → Int} {N : gs_M} (h : lr_num v) (he : lm_e e N) : -2147483648 ≤ v e ∧ v e ≤ 2147483647 := h (-2147483648) 2147483647 e (by decide) (by decide) he.1
section Law19
variable {b : Nat → Int} {n a r o : Nat} {t : Int} {N : gs_M} {x y : Int32} {e : Nat → Int}
theorem lm_10 : lm_m N x a t 147 10 = iI a := rfl
theorem lm_11 : lm_m N x a t 147 11 = iI t := rfl
theorem lm_12 : lm_m N x a t 147 12 = x := by
  unfold lm_m
  rw [md_mc (by decide) (by decide), gs_up_eq]
theorem lm_5 : lm_m N x a t 147 5 = N 147 5 := rfl
theorem lm_8 : lm_m N x a t 147 8 = N 147 8 := rfl
theorem lm_r {z : Nat} (h : z ≠ 147) : lm_m N x a t z = N z := by
  unfold lm_m
  rw [md_mr h, ma_row_ne _ _ _ _ _ h]
theorem lm_u10 (a' : Nat) : gs_up (lm_m N x a t) 147 10 (iI a') = lm_m N x a' t := md_u10 a'
theorem lm_s : gs_up (lm_m N x a t) 147 10 (iI ((a : Int) + 1)) = lm_m N x (a + 1) t := md_u10 (a + 1)
theorem lm_u12 : gs_up (lm_m N x a t) 147 12 y = lm_m N y a t := by
  unfold lm_m
  rw [md_ur _ (Or.inr ⟨by decide, by decide⟩)]
  congr 1
  funext p q
  simp only [gs_up_at]
  split <;> rfl
theorem lm_K (K : md_K r o b n N) : md_K r o b n (gs_up N 147 12 x) := K.up x ⟨by decide, by decide, Or.inr ⟨by decide, by decide, by decide⟩⟩
theorem lm_look (w : tp_w b n) (K : md_K r o b n N) (ha : a ≤ n) : f_X12_look (lm_m N x a t) = some (iI (tp_l b n a), lm_m N x (tp_s b n a) t) := m_look w (lm_K K) ha
theorem lm_look2 (w : tp_w b n) (K : md_K r o b n N) (ha : a ≤ n) : f_X12_look (lm_m N x (tp_s b n a) t) = some (iI (tp_l b n a), lm_m N x (tp_s b n a) t) := by
  have h := lm_look (x := x) (t := t) w K (tp_s_b (b := b) ha).2
  rw [tp_ll ha, tp_ss ha] at h
  exact h
theorem lm_isD (w : tp_w b n) (K : md_K r o b n N) (ha : a ≤ n) : f_X12_isDigit (lm_m N x a t) = some (if a < n ∧ 48 ≤ b a ∧ b a ≤ 57 then iI 1 else iI 0) := m_isD w (lm_K K) ha
theorem lm_fails : f_X12_fails (lm_m N x a (-1)) = some (iI 0, lm_m N x a a) := m_fails
theorem lm_takes (w : tp_w b n) (K : md_K r o b n N) (ha : a ≤ n) {c : Int} (hc : 1 ≤ c ∧ c ≤ 255) : f_X12_takes (lm_m N x a (-1)) (iI c) = some (if tp_l b n a = c then (iI 1, lm_m N x (tp_s b n a + 1) (-1)) else (iI 0, lm_m N x (tp_s b n a) (tp_s b n a : Nat))) := m_takes w (lm_K K) ha hc
theorem lm_takes1 (ht : 0 ≤ t ∧ t ≤ 1000) (z : Int32) : f_X12_takes (lm_m N x a t) z = some (iI 0, lm_m N x a t) := m_takes1 ht z
theorem lm_go6 : f_X12_goesIn (lm_m N (iI 6) a (-1)) = some (iI 0, lm_m N (iI 6) a a) := by
  have e1 := lm_fails (N := N) (x := iI 6) (a := a)
  unfold f_X12_goesIn
  simp (disch := omega) only [qn0, qn1, qn2, qn3, qn4, qn5, qn6, qn7, qn8, qn9, qn10, qn11, qn12, qn13, qn14, qn15, qn16, qn17, qn18, qn24, qn30, qn31, qn32, qn33, qn36, qn38, qn40, qn41, qn42, qn43, qn45, qn47, qn48, qn49, qn50, qn51, qn52, qn53, qn57, qn58, qn59, qn60, qn61, qn62, qn63, qn91, qn93, qn97, qn99, qn100, qn103, qn104, qn112, qn113, qn115, qn116, qn118, qn119, qn121, qn124, qn173, qn177, qn240, qn255, qn295, qn352, qn353, qn533, qn999, qn1000, qn1023, qn6561, qn10000, qn20787, qn1000000, qn252645135, qn858993459, qn1000000000, qn1431655765, q_s1, q_s2, q_s3, q_s4, q_s5, iI_add, iI_sub, iI_mul, iI_neg, q_lt, q_le, q_eq, qz0, qz1, qz2, qz3, if_pos, if_neg, reduceIte, lm_12, e1]
theorem lm_go {dp : Nat} (h : dp < 6) : f_X12_goesIn (lm_m N (iI (dp : Int)) a (-1)) = some (iI 1, lm_m N (iI ((dp : Int) + 1)) (a + 1) (-1)) := by
  unfold f_X12_goesIn
  simp (disch := omega) only [qn0, qn1, qn2, qn3, qn4, qn5, qn6, qn7, qn8, qn9, qn10, qn11, qn12, qn13, qn14, qn15, qn16, qn17, qn18, qn24, qn30, qn31, qn32, qn33, qn36, qn38, qn40, qn41, qn42, qn43, qn45, qn47, qn48, qn49, qn50, qn51, qn52, qn53, qn57, qn58, qn59, qn60, qn61, qn62, qn63, qn91, qn93, qn97, qn99, qn100, qn103, qn104, qn112, qn113, qn115, qn116, qn118, qn119, qn121, qn124, qn173, qn177, qn240, qn255, qn295, qn352, qn353, qn533, qn999, qn1000, qn1023, qn6561, qn10000, qn20787, qn1000000, qn252645135, qn858993459, qn1000000000, qn1431655765, q_s1, q_s2, q_s3, q_s4, q_s5, iI_add, iI_sub, iI_mul, iI_neg, q_lt, q_le, q_eq, qz0, qz1, qz2, qz3, if_pos, if_neg, reduceIte, lm_12, lm_u12, lm_10, lm_s]
theorem lm_am (w : tp_w b n) : f_X12_isAmong_2 (iI (tp_l b n a)) = some (if lr_ix (tp_l b n a) = -1 then iI 0 else iI 1) := by
  rcases tp_l_b (a := a) w with c | c
  · rw [c.1]
    exact q_am2n
  · have h := q_am2 (tp_l b n a).toNat (by omega)
    rw [show (((tp_l b n a).toNat : Nat) : Int) = tp_l b n a by omega] at h
    exact h
theorem lm_am1 (w : tp_w b n) : f_X12_isAmong (iI (tp_l b n a)) = some (if tp_l b n a = 121 ∨ tp_l b n a = 118 then iI 1 else iI 0) := by
  rcases tp_l_b (a := a) w with c | c
  · rw [c.1]
    exact q_am1n
  · have h := q_am1 (tp_l b n a).toNat (by omega)
    have h2 : ((tp_l b n a).toNat = 121 ∨ (tp_l b n a).toNat = 118) ↔ (tp_l b n a = 121 ∨ tp_l b n a = 118) := by omega
    rw [show (((tp_l b n a).toNat : Nat) : Int) = tp_l b n a by omega] at h
    rw [h]
    by_cases c2 : tp_l b n a = 121 ∨ tp_l b n a = 118
    · rw [if_pos c2, if_pos (h2.2 c2)]
    · rw [if_neg c2, if_neg (fun z => c2 (h2.1 z))]
theorem m_numl (w : tp_w b n) (K : md_K r o b n N) (G : Nat → Int32 → Int32 → gs_M → Option (Int32 × gs_M)) (x1 : Int32) : ∀ (d i a f : Nat) (v : Int), i + d = 4 → a ≤ n → d < f → l_X12_atom_90 G x1 f (iI v) (iI (i : Int)) (lm_m N x a (-1)) = some (if (tp_d b n d a v).1 < n ∧ 48 ≤ b (tp_d b n d a v).1 ∧ b (tp_d b n d a v).1 ≤ 57 then (iI 0, lm_m N x (tp_d b n d a v).1 ((tp_d b n d a v).1 : Nat)) else (iI (tp_d b n d a v).2, lm_m N x (tp_d b n d a v).1 (-1))) := by
  have w1 := w.1
  have K1 := lm_K (x := x) K
  have hck : gs_ckB (N 147 5).toNatClampNeg = some r := md_ck K
  intro d
  induction d with
  | zero =>
    intro i a f v hi ha hf
    obtain ⟨f, rfl⟩ : ∃ k, f = k + 1 := ⟨f - 1, by omega⟩
    have e1 := lm_isD (x := x) (t := -1) w K ha
    have e2 := lm_fails (N := N) (x := x) (a := a)
    show _ = some (if a < n ∧ 48 ≤ b a ∧ b a ≤ 57 then (iI 0, lm_m N x a (a : Nat)) else (iI v, lm_m N x a (-1)))
    by_cases c : a < n ∧ 48 ≤ b a ∧ b a ≤ 57
    · rw [if_pos c] at e1 ⊢
      simp only [l_X12_atom_90]
      simp (disch := omega) only [qn0, qn1, qn2, qn3, qn4, qn5, qn6, qn7, qn8, qn9, qn10, qn11, qn12, qn13, qn14, qn15, qn16, qn17, qn18, qn24, qn30, qn31, qn32, qn33, qn36, qn38, qn40, qn41, qn42, qn43, qn45, qn47, qn48, qn49, qn50, qn51, qn52, qn53, qn57, qn58, qn59, qn60, qn61, qn62, qn63, qn91, qn93, qn97, qn99, qn100, qn103, qn104, qn112, qn113, qn115, qn116, qn118, qn119, qn121, qn124, qn173, qn177, qn240, qn255, qn295, qn352, qn353, qn533, qn999, qn1000, qn1023, qn6561, qn10000, qn20787, qn1000000, qn252645135, qn858993459, qn1000000000, qn1431655765, q_s1, q_s2, q_s3, q_s4, q_s5, iI_add, iI_sub, iI_mul, iI_neg, q_lt, q_le, q_eq, qz0, qz1, qz2, qz3, if_pos, if_neg, reduceIte, e1, lm_11, e2]
    · rw [if_neg c] at e1 ⊢
      simp only [l_X12_atom_90]
      simp (disch := omega) only [qn0, qn1, qn2, qn3, qn4, qn5, qn6, qn7, qn8, qn9, qn10, qn11, qn12, qn13, qn14, qn15, qn16, qn17, qn18, qn24, qn30, qn31, qn32, qn33, qn36, qn38, qn40, qn41, qn42, qn43, qn45, qn47, qn48, qn49, qn50, qn51, qn52, qn53, qn57, qn58, qn59, qn60, qn61, qn62, qn63, qn91, qn93, qn97, qn99, qn100, qn103, qn104, qn112, qn113, qn115, qn116, qn118, qn119, qn121, qn124, qn173, qn177, qn240, qn255, qn295, qn352, qn353, qn533, qn999, qn1000, qn1023, qn6561, qn10000, qn20787, qn1000000, qn252645135, qn858993459, qn1000000000, qn1431655765, q_s1, q_s2, q_s3, q_s4, q_s5, iI_add, iI_sub, iI_mul, iI_neg, q_lt, q_le, q_eq, qz0, qz1, qz2, qz3, if_pos, if_neg, reduceIte, e1]
  | succ d ih =>
    intro i a f v hi ha hf
    obtain ⟨f, rfl⟩ : ∃ k, f = k + 1 := ⟨f - 1, by omega⟩
    have e1 := lm_isD (x := x) (t := -1) w K ha
    by_cases c : a < n ∧ 48 ≤ b a ∧ b a ≤ 57
    · rw [if_pos c] at e1
      have e2 := ih (i + 1) (a + 1) f (v * 10 + b a - 48) (by omega) (by omega) (by omega)
      have ec : 10 * v + b a - 48 = v * 10 + b a - 48 := by omega
      rw [show ((i + 1 : Nat) : Int) = (i : Int) + 1 from rfl] at e2
      have e3 : gs_rd (lm_m N x a (-1)) r (gs_bl r) (iI ((o : Int) + a)) = some (iI (b a)) := by
        have := md_rd (t := -1) w K1 c.1
        rw [if_pos (by omega)] at this
        exact this
      have et : tp_d b n (d + 1) a v = tp_d b n d (a + 1) (v * 10 + b a - 48) := by
        rw [tp_d, if_pos c]
      rw [et, l_X12_atom_90]
      simp (disch := omega) only [qn0, qn1, qn2, qn3, qn4, qn5, qn6, qn7, qn8, qn9, qn10, qn11, qn12, qn13, qn14, qn15, qn16, qn17, qn18, qn24, qn30, qn31, qn32, qn33, qn36, qn38, qn40, qn41, qn42, qn43, qn45, qn47, qn48, qn49, qn50, qn51, qn52, qn53, qn57, qn58, qn59, qn60, qn61, qn62, qn63, qn91, qn93, qn97, qn99, qn100, qn103, qn104, qn112, qn113, qn115, qn116, qn118, qn119, qn121, qn124, qn173, qn177, qn240, qn255, qn295, qn352, qn353, qn533, qn999, qn1000, qn1023, qn6561, qn10000, qn20787, qn1000000, qn252645135, qn858993459, qn1000000000, qn1431655765, q_s1, q_s2, q_s3, q_s4, q_s5, iI_add, iI_sub, iI_mul, iI_neg, q_lt, q_le, q_eq, qz0, qz1, qz2, qz3, if_pos, if_neg, reduceIte, e1, lm_11, lm_5, lm_8, lm_10, K.2.2.1, hck, e3, lm_s, ec, e2]
    · rw [if_neg c] at e1
      have et : tp_d b n (d + 1) a v = (a, v) := by
        rw [tp_d, if_neg c]
      rw [et, if_neg c, l_X12_atom_90]
      simp (disch := omega) only [qn0, qn1, qn2, qn3, qn4, qn5, qn6, qn7, qn8, qn9, qn10, qn11, qn12, qn13, qn14, qn15, qn16, qn17, qn18, qn24, qn30, qn31, qn32, qn33, qn36, qn38, qn40, qn41, qn42, qn43, qn45, qn47, qn48, qn49, qn50, qn51, qn52, qn53, qn57, qn58, qn59, qn60, qn61, qn62, qn63, qn91, qn93, qn97, qn99, qn100, qn103, qn104, qn112, qn113, qn115, qn116, qn118, qn119, qn121, qn124, qn173, qn177, qn240, qn255, qn295, qn352, qn353, qn533, qn999, qn1000, qn1023, qn6561, qn10000, qn20787, qn1000000, qn252645135, qn858993459, qn1000000000, qn1431655765, q_s1, q_s2, q_s3, q_s4, q_s5, iI_add, iI_sub, iI_mul, iI_neg, q_lt, q_le, q_eq, qz0, qz1, qz2, qz3, if_pos, if_neg, reduceIte, e1]
set_option maxHeartbeats 20000000 in
theorem m_atom (w : tp_w b n) (K : md_K r o b n N) (he : lm_e e N) {G : Nat → Int32 → Int32 → gs_M → Option (Int32 × gs_M)} {dp H : Nat} {I : Option (Nat → lr_R)} (hI : (dp = 6 ∧ I = none) ∨ (dp < 6 ∧ ∃ S, I = some S ∧ lr_mg b n N e (dp + 1) lm_any (fun Z => G 2 (iI 0) (iI 0) Z) S ∧ lr_gd n H lr_num S)) : lr_mg b n N e dp lm_any (fun Z => f_X12_atom G Z) (lr_atom b n I) := by
  intro a ha
  have w1 := w.1
  have hs := tp_s_b (b := b) ha
  have hl := tp_l_b (a := a) w
  have hi := lr_ix_b (tp_l b n a)
  have e1 := lm_look (x := iI (dp : Int)) (t := -1) w K ha
  have em := lm_am (a := a) w
  by_cases c : lr_ix (tp_l b n a) ≠ -1
  · have ea : lr_atom b n I a = .inr (tp_s b n a + 1, [10000 + lr_ix (tp_l b n a)], fun e => e (lr_ix (tp_l b n a)).toNat) := if_pos c
    rw [if_neg c] at em
    have hz : 1 ≤ tp_l b n a ∧ tp_l b n a ≤ 127 := by
      unfold lr_ix at c
      repeat' split at c
      all_goals omega
    have e2 : gs_rd (lm_m N (iI (dp : Int)) (tp_s b n a + 1) (-1)) 151 128 (iI (tp_l b n a)) = some (iI (e (lr_ix (tp_l b n a)).toNat)) := by
      rw [q_rdn (tp_l b n a).toNat (by omega) (by omega) (by decide), lm_r (by decide), he.2 _ c]
    rw [ea]
    refine ⟨fun u h => (by cases h), fun q h => ?_⟩
    cases h
    simp only [f_X12_atom]
    simp (disch := omega) only [qn0, qn1, qn2, qn3, qn4, qn5, qn6, qn7, qn8, qn9, qn10, qn11, qn12, qn13, qn14, qn15, qn16, qn17, qn18, qn24, qn30, qn31, qn32, qn33, qn36, qn38, qn40, qn41, qn42, qn43, qn45, qn47, qn48, qn49, qn50, qn51, qn52, qn53, qn57, qn58, qn59, qn60, qn61, qn62, qn63, qn91, qn93, qn97, qn99, qn100, qn103, qn104, qn112, qn113, qn115, qn116, qn118, qn119, qn121, qn124, qn173, qn177, qn240, qn255, qn295, qn352, qn353, qn533, qn999, qn1000, qn1023, qn6561, qn10000, qn20787, qn1000000, qn252645135, qn858993459, qn1000000000, qn1431655765, q_s1, q_s2, q_s3, q_s4, q_s5, iI_add, iI_sub, iI_mul, iI_neg, q_lt, q_le, q_eq, qz0, qz1, qz2, qz3, if_pos, if_neg, reduceIte, e1, em, lm_10, lm_s, e2]
  · have c0 : lr_ix (tp_l b n a) = -1 := by omega
    rw [if_pos c0] at em
    by_cases c2 : tp_l b n a = 91
    · rcases hI with ⟨h6, rfl⟩ | ⟨h6, S, rfl, hS, hSg⟩
      · have ea : lr_atom b n none a = .inl (tp_s b n a) := by
          unfold lr_atom
          rw [if_neg c, if_pos c2]
        rw [ea]
        refine ⟨fun u h => ?_, fun q h => (by cases h)⟩
        cases h
        have e2 := lm_go6 (N := N) (a := tp_s b n a)
        rw [h6] at e1 ⊢
        have e1' : f_X12_look (lm_m N (iI 6) a (-1)) = some (iI (tp_l b n a), lm_m N (iI 6) (tp_s b n a) (-1)) := e1
        rw [c2] at em
        refine ⟨iI 0, iI 6, tp_s b n a, True.intro, ?_⟩
        show f_X12_atom G (lm_m N (iI 6) a (-1)) = _
        unfold f_X12_atom
        simp (disch := omega) only [qn0, qn1, qn2, qn3, qn4, qn5, qn6, qn7, qn8, qn9, qn10, qn11, qn12, qn13, qn14, qn15, qn16, qn17, qn18, qn24, qn30, qn31, qn32, qn33, qn36, qn38, qn40, qn41, qn42, qn43, qn45, qn47, qn48, qn49, qn50, qn51, qn52, qn53, qn57, qn58, qn59, qn60, qn61, qn62, qn63, qn91, qn93, qn97, qn99, qn100, qn103, qn104, qn112, qn113, qn115, qn116, qn118, qn119, qn121, qn124, qn173, qn177, qn240, qn255, qn295, qn352, qn353, qn533, qn999, qn1000, qn1023, qn6561, qn10000, qn20787, qn1000000, qn252645135, qn858993459, qn1000000000, qn1431655765, q_s1, q_s2, q_s3, q_s4, q_s5, iI_add, iI_sub, iI_mul, iI_neg, q_lt, q_le, q_eq, qz0, qz1, qz2, qz3, if_pos, if_neg, reduceIte, e1', c2, em, e2]
      · have ea : lr_atom b n (some S) a = lr_cs b n 93 (S (tp_s b n a + 1)) := by
          unfold lr_atom
          rw [if_neg c, if_pos c2]
        rw [ea]
        have e2 := lm_go (N := N) (a := tp_s b n a) h6
        have hg := hSg (tp_s b n a + 1) (by omega)
        obtain ⟨k1, k2⟩ := hS (tp_s b n a + 1) (by omega)
        rw [c2] at em e1
        match hR : S (tp_s b n a + 1) with
        | .inl u =>
          obtain ⟨v, x', a', -, k3⟩ := k1 u hR
          have k3' : G 2 (iI 0) (iI 0) (lm_m N (iI ((dp : Int) + 1)) (tp_s b n a + 1) (-1)) = some (v, lm_m N x' a' (u : Nat)) := k3
          have hu := hg.1 u hR
          have e3 := lm_takes1 (N := N) (x := x') (a := a') (t := (u : Int)) (by omega) (iI 93)
          refine ⟨fun u' h => ?_, fun q h => (by cases h)⟩
          cases h
          refine ⟨iI 0, x', a', True.intro, ?_⟩
          simp only [f_X12_atom]
          simp (disch := omega) only [qn0, qn1, qn2, qn3, qn4, qn5, qn6, qn7, qn8, qn9, qn10, qn11, qn12, qn13, qn14, qn15, qn16, qn17, qn18, qn24, qn30, qn31, qn32, qn33, qn36, qn38, qn40, qn41, qn42, qn43, qn45, qn47, qn48, qn49, qn50, qn51, qn52, qn53, qn57, qn58, qn59, qn60, qn61, qn62, qn63, qn91, qn93, qn97, qn99, qn100, qn103, qn104, qn112, qn113, qn115, qn116, qn118, qn119, qn121, qn124, qn173, qn177, qn240, qn255, qn295, qn352, qn353, qn533, qn999, qn1000, qn1023, qn6561, qn10000, qn20787, qn1000000, qn252645135, qn858993459, qn1000000000, qn1431655765, q_s1, q_s2, q_s3, q_s4, q_s5, iI_add, iI_sub, iI_mul, iI_neg, q_lt, q_le, q_eq, qz0, qz1, qz2, qz3, if_pos, if_neg, reduceIte, e1, em, e2, k3', e3]
        | .inr q =>
          have k3' : G 2 (iI 0) (iI 0) (lm_m N (iI ((dp : Int) + 1)) (tp_s b n a + 1) (-1)) = some (iI (q.2.2 e), lm_m N (iI ((dp : Int) + 1)) q.1 (-1)) := k2 q hR
          obtain ⟨q1, q2, q3, -⟩ := hg.2 q hR
          have e4 := lm_takes (x := iI ((dp : Int) + 1)) w K q2 (c := 93) (by decide)
          by_cases c5 : tp_l b n q.1 = 93
          · have ee : lr_cs b n 93 (.inr q) = .inr (tp_s b n q.1 + 1, q.2) := if_pos c5
            rw [if_pos c5] at e4
            rw [ee]
            refine ⟨fun u h => (by cases h), fun q' h => ?_⟩
            cases h
            have ed : iI ((dp : Int) + 1) - iI 1 = iI (dp : Int) := by
              rw [iI_sub]
              congr 1
              omega
            simp only [f_X12_atom]
            simp (disch := omega) only [q_s1, q_s2, qn0, qn1, qn91, qn93, q_eq, if_pos, if_neg, reduceIte, e1, em, e2, k3', e4, lm_12, lm_u12, ed]
          · have ee : lr_cs b n 93 (.inr q) = .inl (tp_s b n q.1) := if_neg c5
            rw [if_neg c5] at e4
            rw [ee]
            refine ⟨fun u h => ?_, fun q h => (by cases h)⟩
            cases h
            refine ⟨iI 0, iI ((dp : Int) + 1), tp_s b n q.1, True.intro, ?_⟩
            simp only [f_X12_atom]
            simp (disch := omega) only [qn0, qn1, qn2, qn3, qn4, qn5, qn6, qn7, qn8, qn9, qn10, qn11, qn12, qn13, qn14, qn15, qn16, qn17, qn18, qn24, qn30, qn31, qn32, qn33, qn36, qn38, qn40, qn41, qn42, qn43, qn45, qn47, qn48, qn49, qn50, qn51, qn52, qn53, qn57, qn58, qn59, qn60, qn61, qn62, qn63, qn91, qn93, qn97, qn99, qn100, qn103, qn104, qn112, qn113, qn115, qn116, qn118, qn119, qn121, qn124, qn173, qn177, qn240, qn255, qn295, qn352, qn353, qn533, qn999, qn1000, qn1023, qn6561, qn10000, qn20787, qn1000000, qn252645135, qn858993459, qn1000000000, qn1431655765, q_s1, q_s2, q_s3, q_s4, q_s5, iI_add, iI_sub, iI_mul, iI_neg, q_lt, q_le, q_eq, qz0, qz1, qz2, qz3, if_pos, if_neg, reduceIte, e1, em, e2, k3', e4]
    · have en : lr_atom b n I a = (match tp_n b n 4 a with | .inl e => .inl e | .inr q => .inr (q.1, [q.2], fun _ => q.2)) := by
        unfold lr_atom
        rw [if_neg c, if_neg c2]
        cases tp_n b n 4 a <;> rfl
      have e3 := lm_isD (x := iI (dp : Int)) (t := -1) w K hs.2
      have e4 := m_numl (x := iI (dp : Int)) w K G (iI (tp_l b n a)) 4 0 (tp_s b n a) gs_FU 0 rfl hs.2 (by decide)
      have e4' : l_X12_atom_90 G (iI (tp_l b n a)) gs_FU (iI 0) (iI 0) (lm_m N (iI (dp : Int)) (tp_s b n a) (-1)) = _ := e4
      rw [en]
      unfold tp_n
      by_cases c4 : 48 ≤ tp_l b n a ∧ tp_l b n a ≤ 57
      · have c6 : tp_s b n a < n ∧ 48 ≤ b (tp_s b n a) ∧ b (tp_s b n a) ≤ 57 := by omega
        rw [if_pos c6] at e3
        rw [if_pos c4]
        by_cases c7 : (tp_d b n 4 (tp_s b n a) 0).1 < n ∧ 48 ≤ b (tp_d b n 4 (tp_s b n a) 0).1 ∧ b (tp_d b n 4 (tp_s b n a) 0).1 ≤ 57
        · rw [if_pos c7] at e4' ⊢
          refine ⟨fun u h => ?_, fun q h => (by cases h)⟩
          cases h
          refine ⟨iI 0, iI (dp : Int), (tp_d b n 4 (tp_s b n a) 0).1, True.intro, ?_⟩
          simp only [f_X12_atom]
          simp (disch := omega) only [qn0, qn1, qn2, qn3, qn4, qn5, qn6, qn7, qn8, qn9, qn10, qn11, qn12, qn13, qn14, qn15, qn16, qn17, qn18, qn24, qn30, qn31, qn32, qn33, qn36, qn38, qn40, qn41, qn42, qn43, qn45, qn47, qn48, qn49, qn50, qn51, qn52, qn53, qn57, qn58, qn59, qn60, qn61, qn62, qn63, qn91, qn93, qn97, qn99, qn100, qn103, qn104, qn112, qn113, qn115, qn116, qn118, qn119, qn121, qn124, qn173, qn177, qn240, qn255, qn295, qn352, qn353, qn533, qn999, qn1000, qn1023, qn6561, qn10000, qn20787, qn1000000, qn252645135, qn858993459, qn1000000000, qn1431655765, q_s1, q_s2, q_s3, q_s4, q_s5, iI_add, iI_sub, iI_mul, iI_neg, q_lt, q_le, q_eq, qz0, qz1, qz2, qz3, if_pos, if_neg, reduceIte, e1, em, e3, e4']
        · rw [if_neg c7] at e4' ⊢
          refine ⟨fun u h => (by cases h), fun q h => ?_⟩
          cases h
          simp only [f_X12_atom]
          simp (disch := omega) only [qn0, qn1, qn2, qn3, qn4, qn5, qn6, qn7, qn8, qn9, qn10, qn11, qn12, qn13, qn14, qn15, qn16, qn17, qn18, qn24, qn30, qn31, qn32, qn33, qn36, qn38, qn40, qn41, qn42, qn43, qn45, qn47, qn48, qn49, qn50, qn51, qn52, qn53, qn57, qn58, qn59, qn60, qn61, qn62, qn63, qn91, qn93, qn97, qn99, qn100, qn103, qn104, qn112, qn113, qn115, qn116, qn118, qn119, qn121, qn124, qn173, qn177, qn240, qn255, qn295, qn352, qn353, qn533, qn999, qn1000, qn1023, qn6561, qn10000, qn20787, qn1000000, qn252645135, qn858993459, qn1000000000, qn1431655765, q_s1, q_s2, q_s3, q_s4, q_s5, iI_add, iI_sub, iI_mul, iI_neg, q_lt, q_le, q_eq, qz0, qz1, qz2, qz3, if_pos, if_neg, reduceIte, e1, em, e3, e4']
      · have c6 : ¬ (tp_s b n a < n ∧ 48 ≤ b (tp_s b n a) ∧ b (tp_s b n a) ≤ 57) := by omega
        rw [if_neg c6] at e3
        rw [if_neg c4]
        have e5 := lm_fails (N := N) (x := iI (dp : Int)) (a := tp_s b n a)
        have e7 := lm_isD (x := iI (dp : Int)) (t := (tp_s b n a : Nat)) w K hs.2
        rw [if_neg c6] at e7
        have e6 : ∀ f, l_X12_atom_90 G (iI (tp_l b n a)) (f + 1) (iI 0) (iI 0) (lm_m N (iI (dp : Int)) (tp_s b n a) (tp_s b n a : Nat)) = some (iI 0, lm_m N (iI (dp : Int)) (tp_s b n a) (tp_s b n a : Nat)) := fun f => by
          rw [l_X12_atom_90]
          simp (disch := omega) only [qn0, qn1, qn2, qn3, qn4, qn5, qn6, qn7, qn8, qn9, qn10, qn11, qn12, qn13, qn14, qn15, qn16, qn17, qn18, qn24, qn30, qn31, qn32, qn33, qn36, qn38, qn40, qn41, qn42, qn43, qn45, qn47, qn48, qn49, qn50, qn51, qn52, qn53, qn57, qn58, qn59, qn60, qn61, qn62, qn63, qn91, qn93, qn97, qn99, qn100, qn103, qn104, qn112, qn113, qn115, qn116, qn118, qn119, qn121, qn124, qn173, qn177, qn240, qn255, qn295, qn352, qn353, qn533, qn999, qn1000, qn1023, qn6561, qn10000, qn20787, qn1000000, qn252645135, qn858993459, qn1000000000, qn1431655765, q_s1, q_s2, q_s3, q_s4, q_s5, iI_add, iI_sub, iI_mul, iI_neg, q_lt, q_le, q_eq, qz0, qz1, qz2, qz3, if_pos, if_neg, reduceIte, e7]
        have e6' : l_X12_atom_90 G (iI (tp_l b n a)) gs_FU (iI 0) (iI 0) (lm_m N (iI (dp : Int)) (tp_s b n a) (tp_s b n a : Nat)) = some (iI 0, lm_m N (iI (dp : Int)) (tp_s b n a) (tp_s b n a : Nat)) := e6 29999
        refine ⟨fun u h => ?_, fun q h => (by cases h)⟩
        cases h
        refine ⟨iI 0, iI (dp : Int), tp_s b n a, True.intro, ?_⟩
        simp only [f_X12_atom]
        simp (disch := omega) only [qn0, qn1, qn2, qn3, qn4, qn5, qn6, qn7, qn8, qn9, qn10, qn11, qn12, qn13, qn14, qn15, qn16, qn17, qn18, qn24, qn30, qn31, qn32, qn33, qn36, qn38, qn40, qn41, qn42, qn43, qn45, qn47, qn48, qn49, qn50, qn51, qn52, qn53, qn57, qn58, qn59, qn60, qn61, qn62, qn63, qn91, qn93, qn97, qn99, qn100, qn103, qn104, qn112, qn113, qn115, qn116, qn118, qn119, qn121, qn124, qn173, qn177, qn240, qn255, qn295, qn352, qn353, qn533, qn999, qn1000, qn1023, qn6561, qn10000, qn20787, qn1000000, qn252645135, qn858993459, qn1000000000, qn1431655765, q_s1, q_s2, q_s3, q_s4, q_s5, iI_add, iI_sub, iI_mul, iI_neg, q_lt, q_le, q_eq, qz0, qz1, qz2, qz3, if_pos, if_neg, reduceIte, e1, em, e3, e5, e6']
theorem m_within {z : Int} (h : -9000000000000000000 ≤ z ∧ z ≤ 9000000000000000000) : f_X12_within (jI z) = some (iI (lr_cl z)) := by
  unfold f_X12_within
  rw [qj1000000, jI_neg]
  rcases (by omega : 1000000 < z ∨ z < -1000000 ∨ (-1000000 ≤ z ∧ z < 1000000) ∨ z = 1000000) with c | c | c | c
  · have h1 : ¬ jI z < jI 1000000 := by rw [j_lt (by omega)]; omega
    have h2 : ¬ jI 1000000 < jI (-1000000) := by rw [j_lt (by omega)]; omega
    rw [if_neg h1, if_neg h2, jI_to, lr_cl_hi c]
  · have h1 : jI z < jI 1000000 := by rw [j_lt (by omega)]; omega
    have h2 : jI z < jI (-1000000) := by rw [j_lt (by omega)]; omega
    rw [if_pos h1, if_pos h2, jI_to, lr_cl_lo c]
  · have h1 : jI z < jI 1000000 := by rw [j_lt (by omega)]; omega
    have h2 : ¬ jI z < jI (-1000000) := by rw [j_lt (by omega)]; omega
    rw [if_pos h1, if_neg h2, jI_to, lr_cl_id (by omega)]
  · have h1 : ¬ jI z < jI 1000000 := by rw [j_lt (by omega)]; omega
    have h2 : ¬ jI 1000000 < jI (-1000000) := by rw [j_lt (by omega)]; omega
    rw [if_neg h1, if_neg h2, jI_to, c, lr_cl_id (by omega)]
theorem lm_mulb {x y : Int} (hx : -2147483648 ≤ x ∧ x ≤ 2147483647) (hy : -2147483648 ≤ y ∧ y ≤ 2147483647) : -4611686018427387904 ≤ x * y ∧ x * y ≤ 4611686018427387904 := by
  have h : (x * y).natAbs ≤ 2147483648 * 2147483648 := by
    rw [Int.natAbs_mul]
    exact Nat.mul_le_mul (by omega) (by omega)
  omega
end Law19
