/-! TIMETABLES: the model's most -/
def tm_B (H P : Nat) (g : Nat → Nat → Int) (fr : Nat → Bool) (fx : Nat → Int) (M : gs_M) : Prop := M 152 0 = iI (H : Int) ∧ M 147 24 = iI (P : Int) ∧ (∀ p, p < P → M 158 (6 * p + 5) = iI (if fr p = true then 0 else 1)) ∧ (∀ p h, p < P → h < H → M 167 (9 * p + h) = iI (g p h)) ∧ ∀ h, h < H → M 168 h = iI (fx h) ∧ -1 ≤ fx h ∧ fx h ≤ 100
theorem q_shl : ∀ H : Nat, H < 10 → iI 1 <<< (iI (H : Int) &&& iI 31) = iI ((2 ^ H : Nat) : Int) := by decide
theorem q_2p : ∀ H : Nat, H < 10 → 2 ^ H ≤ 512 := by decide
theorem q_bc9 : ∀ z : Nat, z < 512 → ma_bc (iI z) = iI ((tt_c (fun h => z.testBit h) 9 : Nat) : Int) := by decide +kernel
theorem tt_c9 {z H : Nat} (hz : z < 2 ^ H) : ∀ d, tt_c (fun h => z.testBit h) (H + d) = tt_c (fun h => z.testBit h) H := by
  intro d
  induction d with
  | zero => rfl
  | succ d ih =>
    show tt_c (fun h => z.testBit h) (H + d) + (if z.testBit (H + d) = true then 1 else 0) = _
    have hp : 2 ^ H ≤ 2 ^ (H + d) := Nat.pow_le_pow_right (by decide) (by omega)
    rw [ih, Nat.testBit_lt_two_pow (Nat.lt_of_lt_of_le hz hp)]
    rfl
theorem tt_c_b (f : Nat → Bool) : ∀ H, tt_c f H ≤ H := by
  intro H
  induction H with
  | zero => exact Nat.le_refl _
  | succ H ih =>
    simp only [tt_c]
    split <;> omega
section TT2
variable {H P n : Nat} {g : Nat → Nat → Int} {fr : Nat → Bool} {fx : Nat → Int} {M N : gs_M} {K : Nat}
theorem tm_B.fz (B : tm_B H P g fr fx M) (h : ∀ x, x ≠ 165 → x ≠ 166 → N x = M x) : tm_B H P g fr fx N := by
  unfold tm_B
  rw [h 152 (by decide) (by decide), h 147 (by decide) (by decide), h 158 (by decide) (by decide), h 167 (by decide) (by decide), h 168 (by decide) (by decide)]
  exact B
theorem m_gain (hH : H ≤ 9) (hP : P ≤ 8) (B : tm_B H P g fr fx M) (hK : K < P) {own : Nat} (ho : own < 512) : f_X12_gainOf M (iI (K : Int)) (iI (own : Int)) = some (iI (if tt_fb fx K own H = true then tt_sv H g K own else -1000000)) := by
  obtain ⟨b1, b2, b3, b4, b5⟩ := B
  have e0 : gs_rd M 152 3 (iI 0) = some (iI (H : Int)) := by rw [q_rdn (z := 0) 0 rfl (by decide) (by decide), b1]
  obtain ⟨r, e, hr⟩ := ma_up0 (fun f i (q : Int32) => l_X12_gainOf_5 M (iI (K : Int)) (iI (own : Int)) f q i) H
    (fun i q => q = iI (ma_sm i (fun h => if own.testBit h = true then g K h else 0)) ∧ tt_fb fx K own i = true)
    (fun r => r = iI (if tt_fb fx K own H = true then tt_sv H g K own else -1000000)) (iI 0) (by omega) ⟨rfl, rfl⟩
    (by
      rintro f i q hi ⟨rfl, hq⟩
      have eh := m_has (z := own) (i := i) (by omega) (by omega)
      have hs : tt_fb fx K own (i + 1) = (!own.testBit i || decide (fx i = -1 ∨ fx i = (K : Int))) := by
        show (tt_fb fx K own i && _) = _
        rw [hq, Bool.true_and]
      cases hb : own.testBit i with
      | false =>
        rw [hb] at eh
        rw [if_neg (by decide)] at eh
        left
        refine ⟨iI (ma_sm (i + 1) (fun h => if own.testBit h = true then g K h else 0)), ?_, rfl, by rw [hs, hb]; rfl⟩
        simp only [ma_sm, hb]
        rw [if_neg (by decide), Int.add_zero]
        simp only [l_X12_gainOf_5]
        simp (disch := omega) only [qn0, qn1, qn2, qn3, qn4, qn5, qn6, qn7, qn8, qn9, qn10, qn11, qn12, qn13, qn14, qn15, qn16, qn17, qn18, qn24, qn30, qn31, qn32, qn33, qn36, qn38, qn40, qn41, qn42, qn43, qn45, qn47, qn48, qn49, qn50, qn51, qn52, qn53, qn57, qn58, qn59, qn60, qn61, qn62, qn63, qn91, qn93, qn97, qn99, qn100, qn103, qn104, qn112, qn113, qn115, qn116, qn118, qn119, qn121, qn124, qn173, qn177, qn240, qn255, qn295, qn352, qn353, qn533, qn999, qn1000, qn1023, qn6561, qn10000, qn20787, qn1000000, qn252645135, qn858993459, qn1000000000, qn1431655765, q_s1, q_s2, q_s3, q_s4, q_s5, iI_add, iI_sub, iI_mul, iI_neg, q_lt, q_le, q_eq, qz0, qz1, qz2, qz3, if_pos, if_neg, reduceIte, e0, eh]
      | true =>
        rw [hb] at eh
        rw [if_pos rfl] at eh
        obtain ⟨b6, b7, b8⟩ := b5 i hi
        have e1 : gs_rd M 168 9 (iI (i : Int)) = some (iI (fx i)) := by rw [q_rdn i rfl (by omega) (by decide), b6]
        have e2 : gs_rd M 167 72 (iI (9 * (K : Int) + i)) = some (iI (g K i)) := by rw [q_rdn (9 * K + i) (by omega) (by omega) (by decide), b4 K i hK hi]
        have e3 : ma_sm (i + 1) (fun h => if own.testBit h = true then g K h else 0) = ma_sm i (fun h => if own.testBit h = true then g K h else 0) + g K i := by
          simp only [ma_sm, hb]
          rw [if_pos True.intro]
        by_cases c1 : fx i = -1
        · left
          refine ⟨iI (ma_sm (i + 1) (fun h => if own.testBit h = true then g K h else 0)), ?_, rfl, by rw [hs, decide_eq_true (Or.inl c1), Bool.or_true]⟩
          rw [e3]
          simp only [l_X12_gainOf_5]
          simp (disch := omega) only [qn0, qn1, qn2, qn3, qn4, qn5, qn6, qn7, qn8, qn9, qn10, qn11, qn12, qn13, qn14, qn15, qn16, qn17, qn18, qn24, qn30, qn31, qn32, qn33, qn36, qn38, qn40, qn41, qn42, qn43, qn45, qn47, qn48, qn49, qn50, qn51, qn52, qn53, qn57, qn58, qn59, qn60, qn61, qn62, qn63, qn91, qn93, qn97, qn99, qn100, qn103, qn104, qn112, qn113, qn115, qn116, qn118, qn119, qn121, qn124, qn173, qn177, qn240, qn255, qn295, qn352, qn353, qn533, qn999, qn1000, qn1023, qn6561, qn10000, qn20787, qn1000000, qn252645135, qn858993459, qn1000000000, qn1431655765, q_s1, q_s2, q_s3, q_s4, q_s5, iI_add, iI_sub, iI_mul, iI_neg, q_lt, q_le, q_eq, qz0, qz1, qz2, qz3, if_pos, if_neg, reduceIte, e0, eh, e1, e2]
        · by_cases c2 : fx i = (K : Int)
          · left
            refine ⟨iI (ma_sm (i + 1) (fun h => if own.testBit h = true then g K h else 0)), ?_, rfl, by rw [hs, decide_eq_true (Or.inr c2), Bool.or_true]⟩
            rw [e3]
            simp only [l_X12_gainOf_5]
            simp (disch := omega) only [qn0, qn1, qn2, qn3, qn4, qn5, qn6, qn7, qn8, qn9, qn10, qn11, qn12, qn13, qn14, qn15, qn16, qn17, qn18, qn24, qn30, qn31, qn32, qn33, qn36, qn38, qn40, qn41, qn42, qn43, qn45, qn47, qn48, qn49, qn50, qn51, qn52, qn53, qn57, qn58, qn59, qn60, qn61, qn62, qn63, qn91, qn93, qn97, qn99, qn100, qn103, qn104, qn112, qn113, qn115, qn116, qn118, qn119, qn121, qn124, qn173, qn177, qn240, qn255, qn295, qn352, qn353, qn533, qn999, qn1000, qn1023, qn6561, qn10000, qn20787, qn1000000, qn252645135, qn858993459, qn1000000000, qn1431655765, q_s1, q_s2, q_s3, q_s4, q_s5, iI_add, iI_sub, iI_mul, iI_neg, q_lt, q_le, q_eq, qz0, qz1, qz2, qz3, if_pos, if_neg, reduceIte, e0, eh, e1, e2]
          · right
            refine ⟨_, ?_, rfl⟩
            have hn : ¬ tt_fb fx K own H = true := fun hh => by
              have := tt_fb_i.1 hh i hi hb
              omega
            rw [if_neg hn]
            simp only [l_X12_gainOf_5]
            simp (disch := omega) only [qn0, qn1, qn2, qn3, qn4, qn5, qn6, qn7, qn8, qn9, qn10, qn11, qn12, qn13, qn14, qn15, qn16, qn17, qn18, qn24, qn30, qn31, qn32, qn33, qn36, qn38, qn40, qn41, qn42, qn43, qn45, qn47, qn48, qn49, qn50, qn51, qn52, qn53, qn57, qn58, qn59, qn60, qn61, qn62, qn63, qn91, qn93, qn97, qn99, qn100, qn103, qn104, qn112, qn113, qn115, qn116, qn118, qn119, qn121, qn124, qn173, qn177, qn240, qn255, qn295, qn352, qn353, qn533, qn999, qn1000, qn1023, qn6561, qn10000, qn20787, qn1000000, qn252645135, qn858993459, qn1000000000, qn1431655765, q_s1, q_s2, q_s3, q_s4, q_s5, iI_add, iI_sub, iI_mul, iI_neg, q_lt, q_le, q_eq, qz0, qz1, qz2, qz3, if_pos, if_neg, reduceIte, e0, eh, e1])
    (by
      rintro f q ⟨rfl, hq⟩
      refine ⟨_, ?_, rfl⟩
      rw [if_pos hq]
      simp only [l_X12_gainOf_5]
      simp (disch := omega) only [qn0, qn1, qn2, qn3, qn4, qn5, qn6, qn7, qn8, qn9, qn10, qn11, qn12, qn13, qn14, qn15, qn16, qn17, qn18, qn24, qn30, qn31, qn32, qn33, qn36, qn38, qn40, qn41, qn42, qn43, qn45, qn47, qn48, qn49, qn50, qn51, qn52, qn53, qn57, qn58, qn59, qn60, qn61, qn62, qn63, qn91, qn93, qn97, qn99, qn100, qn103, qn104, qn112, qn113, qn115, qn116, qn118, qn119, qn121, qn124, qn173, qn177, qn240, qn255, qn295, qn352, qn353, qn533, qn999, qn1000, qn1023, qn6561, qn10000, qn20787, qn1000000, qn252645135, qn858993459, qn1000000000, qn1431655765, q_s1, q_s2, q_s3, q_s4, q_s5, iI_add, iI_sub, iI_mul, iI_neg, q_lt, q_le, q_eq, qz0, qz1, qz2, qz3, if_pos, if_neg, reduceIte, e0]
      rfl)
  subst hr
  exact e
theorem m_b122 (hH : H ≤ 9) {t u : Nat → Int} (h5 : ∀ S, S < 2 ^ H → M 165 S = iI (t S)) (h6 : ∀ S, S < 2 ^ H → M 166 S = iI (u S)) (ht : ∀ S, S < 2 ^ H → -1000000 ≤ t S ∧ t S ≤ 90) (hu : ∀ S, S < 2 ^ H → -1000000 ≤ u S ∧ u S ≤ 1000) {own : Nat} (ho : own < 2 ^ H) {v : Int} (hv : 0 ≤ v ∧ v ≤ 90) (x1 x3 : Int32) : ∃ j N, l_X12_mostBy_122 x1 (iI (((2 ^ H : Nat) : Int) - 1)) x3 (iI (own : Int)) (iI v) gs_FU (iI 0) M = some (j, N) ∧ (∀ x, x ≠ 166 → N x = M x) ∧ (∀ S, S < 2 ^ H → N 166 S = iI (tt_in t own v u (2 ^ H) S)) ∧ ∀ S, S < 2 ^ H → -1000000 ≤ tt_in t own v u (2 ^ H) S ∧ tt_in t own v u (2 ^ H) S ≤ 1000 := by
  have hp := q_2p H (by omega)
  have hp0 := Nat.two_pow_pos H
  have hb : ∀ J, ∀ S, S < 2 ^ H → J ≤ 2 ^ H → -1000000 ≤ tt_in t own v u J S ∧ tt_in t own v u J S ≤ 1000 := fun J S hS hJ => by
    obtain ⟨k1, -, k3⟩ := tt_in_p t own v u J
    have a1 := k1 S
    have a2 := hu S hS
    rcases k3 S with d | ⟨j, j1, j2, j3, j4, j5⟩
    · omega
    · have := ht j (by omega)
      omega
  obtain ⟨r, e, N, h1, h2, j, rfl⟩ := ma_up0 (fun f i (k : gs_M) => l_X12_mostBy_122 x1 (iI (((2 ^ H : Nat) : Int) - 1)) x3 (iI (own : Int)) (iI v) f i k) (2 ^ H)
    (fun J k => (∀ x, x ≠ 166 → k x = M x) ∧ ∀ S, S < 2 ^ H → k 166 S = iI (tt_in t own v u J S))
    (fun r => ∃ N, (∀ x, x ≠ 166 → N x = M x) ∧ (∀ S, S < 2 ^ H → N 166 S = iI (tt_in t own v u (2 ^ H) S)) ∧ ∃ j, r = (j, N)) M (by omega) ⟨fun _ _ => rfl, h6⟩
    (by
      rintro f J k hJ ⟨h1, h2⟩
      left
      have e1 : iI (J : Int) &&& iI (own : Int) = iI ((J &&& own : Nat) : Int) := b_and J own
      have hle : J &&& own ≤ own := Nat.and_le_right
      have e2 : gs_rd k 165 512 (iI (J : Int)) = some (iI (t J)) := by rw [q_rdn J rfl (by omega) (by decide), h1 165 (by decide), h5 J hJ]
      have htJ := ht J hJ
      by_cases c : J &&& own = 0 ∧ 0 ≤ t J
      · have es : tt_in t own v u (J + 1) = tt_put (tt_in t own v u J) (J ||| own) (t J + v) := if_pos c
        have hor : J ||| own < 2 ^ H := Nat.or_lt_two_pow hJ ho
        have e3 : iI (J : Int) ||| iI (own : Int) = iI ((J ||| own : Nat) : Int) := b_or J own
        have hbx := hb J (J ||| own) hor (by omega)
        have e4 : gs_rd k 166 512 (iI ((J ||| own : Nat) : Int)) = some (iI (tt_in t own v u J (J ||| own))) := by rw [q_rdn (J ||| own) rfl (by omega) (by decide), h2 _ hor]
        have e5 : ∀ y, gs_wr k 166 512 (iI ((J ||| own : Nat) : Int)) y = some (gs_up k 166 (J ||| own) y) := fun y => by rw [q_wrn (J ||| own) rfl (by omega) (by decide)]
        have c1 := c.1
        have e1' : iI (J : Int) &&& iI (own : Int) = iI 0 := by rw [e1, c1]; rfl
        refine ⟨gs_up k 166 (J ||| own) (iI (tt_put (tt_in t own v u J) (J ||| own) (t J + v) (J ||| own))), ?_, fun x hx => by rw [ma_row_ne _ _ _ _ _ hx, h1 x hx], fun S hS => ?_⟩
        · have hput : tt_put (tt_in t own v u J) (J ||| own) (t J + v) (J ||| own) = if tt_in t own v u J (J ||| own) < t J + v then t J + v else tt_in t own v u J (J ||| own) := if_pos rfl
          rw [hput]
          simp only [l_X12_mostBy_122]
          by_cases d : tt_in t own v u J (J ||| own) < t J + v
          · simp (disch := omega) only [qn0, qn1, qn2, qn3, qn4, qn5, qn6, qn7, qn8, qn9, qn10, qn11, qn12, qn13, qn14, qn15, qn16, qn17, qn18, qn24, qn30, qn31, qn32, qn33, qn36, qn38, qn40, qn41, qn42, qn43, qn45, qn47, qn48, qn49, qn50, qn51, qn52, qn53, qn57, qn58, qn59, qn60, qn61, qn62, qn63, qn91, qn93, qn97, qn99, qn100, qn103, qn104, qn112, qn113, qn115, qn116, qn118, qn119, qn121, qn124, qn173, qn177, qn240, qn255, qn295, qn352, qn353, qn533, qn999, qn1000, qn1023, qn6561, qn10000, qn20787, qn1000000, qn252645135, qn858993459, qn1000000000, qn1431655765, q_s1, q_s2, q_s3, q_s4, q_s5, iI_add, iI_sub, iI_mul, iI_neg, q_lt, q_le, q_eq, qz0, qz1, qz2, qz3, if_pos, if_neg, reduceIte, e1', e2, e3, e4, e5]
          · simp (disch := omega) only [qn0, qn1, qn2, qn3, qn4, qn5, qn6, qn7, qn8, qn9, qn10, qn11, qn12, qn13, qn14, qn15, qn16, qn17, qn18, qn24, qn30, qn31, qn32, qn33, qn36, qn38, qn40, qn41, qn42, qn43, qn45, qn47, qn48, qn49, qn50, qn51, qn52, qn53, qn57, qn58, qn59, qn60, qn61, qn62, qn63, qn91, qn93, qn97, qn99, qn100, qn103, qn104, qn112, qn113, qn115, qn116, qn118, qn119, qn121, qn124, qn173, qn177, qn240, qn255, qn295, qn352, qn353, qn533, qn999, qn1000, qn1023, qn6561, qn10000, qn20787, qn1000000, qn252645135, qn858993459, qn1000000000, qn1431655765, q_s1, q_s2, q_s3, q_s4, q_s5, iI_add, iI_sub, iI_mul, iI_neg, q_lt, q_le, q_eq, qz0, qz1, qz2, qz3, if_pos, if_neg, reduceIte, e1', e2, e3, e4, e5]
        · rw [es]
          by_cases d : S = J ||| own
          · subst d
            rw [gs_up_eq]
          · rw [ma_cell_ne _ _ _ _ _ _ (by omega), h2 S hS]
            unfold tt_put
            rw [if_neg d]
      · have es : tt_in t own v u (J + 1) = tt_in t own v u J := if_neg c
        refine ⟨k, ?_, h1, by rw [es]; exact h2⟩
        simp only [l_X12_mostBy_122]
        by_cases d : J &&& own = 0
        · have hneg : t J < 0 := by
            rcases (by omega : 0 ≤ t J ∨ t J < 0) with h | h
            · exact absurd ⟨d, h⟩ c
            · exact h
          have e1' : iI (J : Int) &&& iI (own : Int) = iI 0 := by rw [e1, d]; rfl
          simp (disch := omega) only [qn0, qn1, qn2, qn3, qn4, qn5, qn6, qn7, qn8, qn9, qn10, qn11, qn12, qn13, qn14, qn15, qn16, qn17, qn18, qn24, qn30, qn31, qn32, qn33, qn36, qn38, qn40, qn41, qn42, qn43, qn45, qn47, qn48, qn49, qn50, qn51, qn52, qn53, qn57, qn58, qn59, qn60, qn61, qn62, qn63, qn91, qn93, qn97, qn99, qn100, qn103, qn104, qn112, qn113, qn115, qn116, qn118, qn119, qn121, qn124, qn173, qn177, qn240, qn255, qn295, qn352, qn353, qn533, qn999, qn1000, qn1023, qn6561, qn10000, qn20787, qn1000000, qn252645135, qn858993459, qn1000000000, qn1431655765, q_s1, q_s2, q_s3, q_s4, q_s5, iI_add, iI_sub, iI_mul, iI_neg, q_lt, q_le, q_eq, qz0, qz1, qz2, qz3, if_pos, if_neg, reduceIte, e1', e2]
        · simp (disch := omega) only [qn0, qn1, qn2, qn3, qn4, qn5, qn6, qn7, qn8, qn9, qn10, qn11, qn12, qn13, qn14, qn15, qn16, qn17, qn18, qn24, qn30, qn31, qn32, qn33, qn36, qn38, qn40, qn41, qn42, qn43, qn45, qn47, qn48, qn49, qn50, qn51, qn52, qn53, qn57, qn58, qn59, qn60, qn61, qn62, qn63, qn91, qn93, qn97, qn99, qn100, qn103, qn104, qn112, qn113, qn115, qn116, qn118, qn119, qn121, qn124, qn173, qn177, qn240, qn255, qn295, qn352, qn353, qn533, qn999, qn1000, qn1023, qn6561, qn10000, qn20787, qn1000000, qn252645135, qn858993459, qn1000000000, qn1431655765, q_s1, q_s2, q_s3, q_s4, q_s5, iI_add, iI_sub, iI_mul, iI_neg, q_lt, q_le, q_eq, qz0, qz1, qz2, qz3, if_pos, if_neg, reduceIte, e1])
    (by
      rintro f k ⟨h1, h2⟩
      refine ⟨_, ?_, k, h1, h2, iI ((2 ^ H : Nat) : Int), rfl⟩
      simp only [l_X12_mostBy_122]
      simp (disch := omega) only [qn0, qn1, qn2, qn3, qn4, qn5, qn6, qn7, qn8, qn9, qn10, qn11, qn12, qn13, qn14, qn15, qn16, qn17, qn18, qn24, qn30, qn31, qn32, qn33, qn36, qn38, qn40, qn41, qn42, qn43, qn45, qn47, qn48, qn49, qn50, qn51, qn52, qn53, qn57, qn58, qn59, qn60, qn61, qn62, qn63, qn91, qn93, qn97, qn99, qn100, qn103, qn104, qn112, qn113, qn115, qn116, qn118, qn119, qn121, qn124, qn173, qn177, qn240, qn255, qn295, qn352, qn353, qn533, qn999, qn1000, qn1023, qn6561, qn10000, qn20787, qn1000000, qn252645135, qn858993459, qn1000000000, qn1431655765, q_s1, q_s2, q_s3, q_s4, q_s5, iI_add, iI_sub, iI_mul, iI_neg, q_lt, q_le, q_eq, qz0, qz1, qz2, qz3, if_pos, if_neg, reduceIte])
  exact ⟨j, N, e, h1, h2, fun S hS => hb _ S hS (Nat.le_refl _)⟩
theorem m_b92 (hH : H ≤ 9) (hP : P ≤ 8) (hn : n ≤ 9) (hg : ∀ p h, 0 ≤ g p h ∧ g p h ≤ 10) (B : tm_B H P g fr fx M) (hK : K < P) {t : Nat → Int} (h5 : ∀ S, S < 2 ^ H → M 165 S = iI (t S)) (h6 : ∀ S, S < 2 ^ H → M 166 S = iI (-1000000)) (ht : ∀ S, S < 2 ^ H → -1000000 ≤ t S ∧ t S ≤ 90) : ∃ j N, l_X12_mostBy_92 (iI (n : Int)) (iI (((2 ^ H : Nat) : Int) - 1)) (iI (K : Int)) gs_FU (iI 0) M = some (j, N) ∧ (∀ x, x ≠ 166 → N x = M x) ∧ ∀ S, S < 2 ^ H → N 166 S = iI (tt_ou H n g fx K t (2 ^ H) S) := by
  have hp := q_2p H (by omega)
  have hp0 := Nat.two_pow_pos H
  obtain ⟨r, e, N, h1, h2, j, rfl⟩ := ma_up0 (fun f i (k : gs_M) => l_X12_mostBy_92 (iI (n : Int)) (iI (((2 ^ H : Nat) : Int) - 1)) (iI (K : Int)) f i k) (2 ^ H)
    (fun O k => (∀ x, x ≠ 166 → k x = M x) ∧ (∀ S, S < 2 ^ H → k 166 S = iI (tt_ou H n g fx K t O S)) ∧ ∀ S, S < 2 ^ H → -1000000 ≤ tt_ou H n g fx K t O S ∧ tt_ou H n g fx K t O S ≤ 1000)
    (fun r => ∃ N, (∀ x, x ≠ 166 → N x = M x) ∧ (∀ S, S < 2 ^ H → N 166 S = iI (tt_ou H n g fx K t (2 ^ H) S)) ∧ ∃ j, r = (j, N)) M (by omega) ⟨fun _ _ => rfl, h6, fun S hS => ⟨by show (-1000000 : Int) ≤ -1000000; decide, by show (-1000000 : Int) ≤ 1000; decide⟩⟩
    (by
      rintro f O k hO ⟨h1, h2, h3⟩
      left
      have BN : tm_B H P g fr fx k := B.fz (fun x _ hx => h1 x hx)
      have e1 := q_bc9 O (by omega)
      have e2 : tt_c (fun h => O.testBit h) 9 = tt_c (fun h => O.testBit h) H := by
        have := tt_c9 hO (9 - H)
        rw [show H + (9 - H) = 9 by omega] at this
        exact this
      have e3 : f_J6_bitCount_0f7a4 (iI (O : Int)) = some (iI ((tt_c (fun h => O.testBit h) H : Nat) : Int)) := by rw [q_bc, e1, e2]
      have hcb := tt_c_b (fun h => O.testBit h) H
      have e4 := m_gain hH hP BN hK (own := O) (by omega)
      by_cases c : tt_c (fun h => O.testBit h) H ≤ n
      · by_cases c2 : tt_fb fx K O H = true
        · rw [if_pos c2] at e4
          have hv : 0 ≤ tt_sv H g K O ∧ tt_sv H g K O ≤ 90 := by
            have := ma_sm_b (n := H) (f := fun h => if O.testBit h = true then g K h else 0) (a := 0) (b := 10) (fun i hi => by
              split
              · exact hg _ _
              · exact ⟨by decide, by decide⟩)
            unfold tt_sv
            omega
          obtain ⟨j, N1, k1, k2, k3, k4⟩ := m_b122 (M := k) hH (t := t) (u := tt_ou H n g fx K t O) (fun S hS => by rw [h1 165 (by decide)]; exact h5 S hS) h2 ht h3 hO hv (iI (n : Int)) (iI (K : Int))
          have es : tt_ou H n g fx K t (O + 1) = tt_in t O (tt_sv H g K O) (tt_ou H n g fx K t O) (2 ^ H) := if_pos ⟨c, c2⟩
          refine ⟨N1, ?_, fun x hx => by rw [k2 x hx, h1 x hx], by rw [es]; exact k3, by rw [es]; exact k4⟩
          simp only [l_X12_mostBy_92]
          simp (disch := omega) only [qn0, qn1, qn2, qn3, qn4, qn5, qn6, qn7, qn8, qn9, qn10, qn11, qn12, qn13, qn14, qn15, qn16, qn17, qn18, qn24, qn30, qn31, qn32, qn33, qn36, qn38, qn40, qn41, qn42, qn43, qn45, qn47, qn48, qn49, qn50, qn51, qn52, qn53, qn57, qn58, qn59, qn60, qn61, qn62, qn63, qn91, qn93, qn97, qn99, qn100, qn103, qn104, qn112, qn113, qn115, qn116, qn118, qn119, qn121, qn124, qn173, qn177, qn240, qn255, qn295, qn352, qn353, qn533, qn999, qn1000, qn1023, qn6561, qn10000, qn20787, qn1000000, qn252645135, qn858993459, qn1000000000, qn1431655765, q_s1, q_s2, q_s3, q_s4, q_s5, iI_add, iI_sub, iI_mul, iI_neg, q_lt, q_le, q_eq, qz0, qz1, qz2, qz3, if_pos, if_neg, reduceIte, e3, e4, k1]
        · rw [if_neg c2] at e4
          have es : tt_ou H n g fx K t (O + 1) = tt_ou H n g fx K t O := if_neg (fun h => c2 h.2)
          have e5 : ∀ f, l_X12_mostBy_122 (iI (n : Int)) (iI (((2 ^ H : Nat) : Int) - 1)) (iI (K : Int)) (iI (O : Int)) (iI (-1000000)) (f + 1) (iI 0) k = some (iI 0, k) := fun f => by
            rw [l_X12_mostBy_122]
            simp (disch := omega) only [qn0, qn1, qn2, qn3, qn4, qn5, qn6, qn7, qn8, qn9, qn10, qn11, qn12, qn13, qn14, qn15, qn16, qn17, qn18, qn24, qn30, qn31, qn32, qn33, qn36, qn38, qn40, qn41, qn42, qn43, qn45, qn47, qn48, qn49, qn50, qn51, qn52, qn53, qn57, qn58, qn59, qn60, qn61, qn62, qn63, qn91, qn93, qn97, qn99, qn100, qn103, qn104, qn112, qn113, qn115, qn116, qn118, qn119, qn121, qn124, qn173, qn177, qn240, qn255, qn295, qn352, qn353, qn533, qn999, qn1000, qn1023, qn6561, qn10000, qn20787, qn1000000, qn252645135, qn858993459, qn1000000000, qn1431655765, q_s1, q_s2, q_s3, q_s4, q_s5, iI_add, iI_sub, iI_mul, iI_neg, q_lt, q_le, q_eq, qz0, qz1, qz2, qz3, if_pos, if_neg, reduceIte]
          have e5' : l_X12_mostBy_122 (iI (n : Int)) (iI (((2 ^ H : Nat) : Int) - 1)) (iI (K : Int)) (iI (O : Int)) (iI (-1000000)) gs_FU (iI 0) k = some (iI 0, k) := e5 29999
          refine ⟨k, ?_, h1, by rw [es]; exact h2, by rw [es]; exact h3⟩
          simp only [l_X12_mostBy_92]
          simp (disch := omega) only [qn0, qn1, qn2, qn3, qn4, qn5, qn6, qn7, qn8, qn9, qn10, qn11, qn12, qn13, qn14, qn15, qn16, qn17, qn18, qn24, qn30, qn31, qn32, qn33, qn36, qn38, qn40, qn41, qn42, qn43, qn45, qn47, qn48, qn49, qn50, qn51, qn52, qn53, qn57, qn58, qn59, qn60, qn61, qn62, qn63, qn91, qn93, qn97, qn99, qn100, qn103, qn104, qn112, qn113, qn115, qn116, qn118, qn119, qn121, qn124, qn173, qn177, qn240, qn255, qn295, qn352, qn353, qn533, qn999, qn1000, qn1023, qn6561, qn10000, qn20787, qn1000000, qn252645135, qn858993459, qn1000000000, qn1431655765, q_s1, q_s2, q_s3, q_s4, q_s5, iI_add, iI_sub, iI_mul, iI_neg, q_lt, q_le, q_eq, qz0, qz1, qz2, qz3, if_pos, if_neg, reduceIte, e3, e4, e5']
      · have es : tt_ou H n g fx K t (O + 1) = tt_ou H n g fx K t O := if_neg (fun h => c h.1)
        refine ⟨k, ?_, h1, by rw [es]; exact h2, by rw [es]; exact h3⟩
        simp only [l_X12_mostBy_92]
        simp (disch := omega) only [qn0, qn1, qn2, qn3, qn4, qn5, qn6, qn7, qn8, qn9, qn10, qn11, qn12, qn13, qn14, qn15, qn16, qn17, qn18, qn24, qn30, qn31, qn32, qn33, qn36, qn38, qn40, qn41, qn42, qn43, qn45, qn47, qn48, qn49, qn50, qn51, qn52, qn53, qn57, qn58, qn59, qn60, qn61, qn62, qn63, qn91, qn93, qn97, qn99, qn100, qn103, qn104, qn112, qn113, qn115, qn116, qn118, qn119, qn121, qn124, qn173, qn177, qn240, qn255, qn295, qn352, qn353, qn533, qn999, qn1000, qn1023, qn6561, qn10000, qn20787, qn1000000, qn252645135, qn858993459, qn1000000000, qn1431655765, q_s1, q_s2, q_s3, q_s4, q_s5, iI_add, iI_sub, iI_mul, iI_neg, q_lt, q_le, q_eq, qz0, qz1, qz2, qz3, if_pos, if_neg, reduceIte, e3])
    (by
      rintro f k ⟨h1, h2, h3⟩
      refine ⟨_, ?_, k, h1, h2, iI ((2 ^ H : Nat) : Int), rfl⟩
      simp only [l_X12_mostBy_92]
      simp (disch := omega) only [qn0, qn1, qn2, qn3, qn4, qn5, qn6, qn7, qn8, qn9, qn10, qn11, qn12, qn13, qn14, qn15, qn16, qn17, qn18, qn24, qn30, qn31, qn32, qn33, qn36, qn38, qn40, qn41, qn42, qn43, qn45, qn47, qn48, qn49, qn50, qn51, qn52, qn53, qn57, qn58, qn59, qn60, qn61, qn62, qn63, qn91, qn93, qn97, qn99, qn100, qn103, qn104, qn112, qn113, qn115, qn116, qn118, qn119, qn121, qn124, qn173, qn177, qn240, qn255, qn295, qn352, qn353, qn533, qn999, qn1000, qn1023, qn6561, qn10000, qn20787, qn1000000, qn252645135, qn858993459, qn1000000000, qn1431655765, q_s1, q_s2, q_s3, q_s4, q_s5, iI_add, iI_sub, iI_mul, iI_neg, q_lt, q_le, q_eq, qz0, qz1, qz2, qz3, if_pos, if_neg, reduceIte])
  exact ⟨j, N, e, h1, h2⟩
theorem m_b67 (hH : H ≤ 9) (x1 x3 : Int32) (M : gs_M) : ∃ j N, l_X12_mostBy_67 x1 (iI (((2 ^ H : Nat) : Int) - 1)) x3 gs_FU (iI 0) M = some (j, N) ∧ (∀ x, x ≠ 166 → N x = M x) ∧ ∀ S, S < 2 ^ H → N 166 S = iI (-1000000) := by
  have hp := q_2p H (by omega)
  have hp0 := Nat.two_pow_pos H
  obtain ⟨r, e, N, h1, h2, j, rfl⟩ := ma_up0 (fun f i (k : gs_M) => l_X12_mostBy_67 x1 (iI (((2 ^ H : Nat) : Int) - 1)) x3 f i k) (2 ^ H)
    (fun J k => (∀ x, x ≠ 166 → k x = M x) ∧ ∀ S, S < J → k 166 S = iI (-1000000))
    (fun r => ∃ N, (∀ x, x ≠ 166 → N x = M x) ∧ (∀ S, S < 2 ^ H → N 166 S = iI (-1000000)) ∧ ∃ j, r = (j, N)) M (by omega) ⟨fun _ _ => rfl, fun S hS => by omega⟩
    (by
      rintro f J k hJ ⟨h1, h2⟩
      left
      have e5 : ∀ y, gs_wr k 166 512 (iI (J : Int)) y = some (gs_up k 166 J y) := fun y => by rw [q_wrn J rfl (by omega) (by decide)]
      refine ⟨gs_up k 166 J (iI (-1000000)), ?_, fun x hx => by rw [ma_row_ne _ _ _ _ _ hx, h1 x hx], fun S hS => ?_⟩
      · simp only [l_X12_mostBy_67]
        simp (disch := omega) only [qn0, qn1, qn2, qn3, qn4, qn5, qn6, qn7, qn8, qn9, qn10, qn11, qn12, qn13, qn14, qn15, qn16, qn17, qn18, qn24, qn30, qn31, qn32, qn33, qn36, qn38, qn40, qn41, qn42, qn43, qn45, qn47, qn48, qn49, qn50, qn51, qn52, qn53, qn57, qn58, qn59, qn60, qn61, qn62, qn63, qn91, qn93, qn97, qn99, qn100, qn103, qn104, qn112, qn113, qn115, qn116, qn118, qn119, qn121, qn124, qn173, qn177, qn240, qn255, qn295, qn352, qn353, qn533, qn999, qn1000, qn1023, qn6561, qn10000, qn20787, qn1000000, qn252645135, qn858993459, qn1000000000, qn1431655765, q_s1, q_s2, q_s3, q_s4, q_s5, iI_add, iI_sub, iI_mul, iI_neg, q_lt, q_le, q_eq, qz0, qz1, qz2, qz3, if_pos, if_neg, reduceIte, e5]
      · by_cases d : S = J
        · subst d
          rw [gs_up_eq]
        · rw [ma_cell_ne _ _ _ _ _ _ (by omega)]
          exact h2 S (by omega))
    (by
      rintro f k ⟨h1, h2⟩
      refine ⟨_, ?_, k, h1, h2, iI ((2 ^ H : Nat) : Int), rfl⟩
      simp only [l_X12_mostBy_67]
      simp (disch := omega) only [qn0, qn1, qn2, qn3, qn4, qn5, qn6, qn7, qn8, qn9, qn10, qn11, qn12, qn13, qn14, qn15, qn16, qn17, qn18, qn24, qn30, qn31, qn32, qn33, qn36, qn38, qn40, qn41, qn42, qn43, qn45, qn47, qn48, qn49, qn50, qn51, qn52, qn53, qn57, qn58, qn59, qn60, qn61, qn62, qn63, qn91, qn93, qn97, qn99, qn100, qn103, qn104, qn112, qn113, qn115, qn116, qn118, qn119, qn121, qn124, qn173, qn177, qn240, qn255, qn295, qn352, qn353, qn533, qn999, qn1000, qn1023, qn6561, qn10000, qn20787, qn1000000, qn252645135, qn858993459, qn1000000000, qn1431655765, q_s1, q_s2, q_s3, q_s4, q_s5, iI_add, iI_sub, iI_mul, iI_neg, q_lt, q_le, q_eq, qz0, qz1, qz2, qz3, if_pos, if_neg, reduceIte])
  exact ⟨j, N, e, h1, h2⟩
theorem m_b199 (hH : H ≤ 9) (x1 x3 : Int32) (M : gs_M) : ∃ j N, l_X12_mostBy_199 x1 (iI (((2 ^ H : Nat) : Int) - 1)) x3 gs_FU (iI 0) M = some (j, N) ∧ (∀ x, x ≠ 165 → N x = M x) ∧ ∀ S, S < 2 ^ H → N 165 S = M 166 S := by
  have hp := q_2p H (by omega)
  have hp0 := Nat.two_pow_pos H
  obtain ⟨r, e, N, h1, h2, j, rfl⟩ := ma_up0 (fun f i (k : gs_M) => l_X12_mostBy_199 x1 (iI (((2 ^ H : Nat) : Int) - 1)) x3 f i k) (2 ^ H)
    (fun J k => (∀ x, x ≠ 165 → k x = M x) ∧ ∀ S, S < J → k 165 S = M 166 S)
    (fun r => ∃ N, (∀ x, x ≠ 165 → N x = M x) ∧ (∀ S, S < 2 ^ H → N 165 S = M 166 S) ∧ ∃ j, r = (j, N)) M (by omega) ⟨fun _ _ => rfl, fun S hS => by omega⟩
    (by
      rintro f J k hJ ⟨h1, h2⟩
      left
      have e4 : gs_rd k 166 512 (iI (J : Int)) = some (M 166 J) := by rw [q_rdn J rfl (by omega) (by decide), h1 166 (by decide)]
      have e5 : ∀ y, gs_wr k 165 512 (iI (J : Int)) y = some (gs_up k 165 J y) := fun y => by rw [q_wrn J rfl (by omega) (by decide)]
      refine ⟨gs_up k 165 J (M 166 J), ?_, fun x hx => by rw [ma_row_ne _ _ _ _ _ hx, h1 x hx], fun S hS => ?_⟩
      · simp only [l_X12_mostBy_199]
        simp (disch := omega) only [qn0, qn1, qn2, qn3, qn4, qn5, qn6, qn7, qn8, qn9, qn10, qn11, qn12, qn13, qn14, qn15, qn16, qn17, qn18, qn24, qn30, qn31, qn32, qn33, qn36, qn38, qn40, qn41, qn42, qn43, qn45, qn47, qn48, qn49, qn50, qn51, qn52, qn53, qn57, qn58, qn59, qn60, qn61, qn62, qn63, qn91, qn93, qn97, qn99, qn100, qn103, qn104, qn112, qn113, qn115, qn116, qn118, qn119, qn121, qn124, qn173, qn177, qn240, qn255, qn295, qn352, qn353, qn533, qn999, qn1000, qn1023, qn6561, qn10000, qn20787, qn1000000, qn252645135, qn858993459, qn1000000000, qn1431655765, q_s1, q_s2, q_s3, q_s4, q_s5, iI_add, iI_sub, iI_mul, iI_neg, q_lt, q_le, q_eq, qz0, qz1, qz2, qz3, if_pos, if_neg, reduceIte, e4, e5]
      · by_cases d : S = J
        · subst d
          rw [gs_up_eq]
        · rw [ma_cell_ne _ _ _ _ _ _ (by omega)]
          exact h2 S (by omega))
    (by
      rintro f k ⟨h1, h2⟩
      refine ⟨_, ?_, k, h1, h2, iI ((2 ^ H : Nat) : Int), rfl⟩
      simp only [l_X12_mostBy_199]
      simp (disch := omega) only [qn0, qn1, qn2, qn3, qn4, qn5, qn6, qn7, qn8, qn9, qn10, qn11, qn12, qn13, qn14, qn15, qn16, qn17, qn18, qn24, qn30, qn31, qn32, qn33, qn36, qn38, qn40, qn41, qn42, qn43, qn45, qn47, qn48, qn49, qn50, qn51, qn52, qn53, qn57, qn58, qn59, qn60, qn61, qn62, qn63, qn91, qn93, qn97, qn99, qn100, qn103, qn104, qn112, qn113, qn115, qn116, qn118, qn119, qn121, qn124, qn173, qn177, qn240, qn255, qn295, qn352, qn353, qn533, qn999, qn1000, qn1023, qn6561, qn10000, qn20787, qn1000000, qn252645135, qn858993459, qn1000000000, qn1431655765, q_s1, q_s2, q_s3, q_s4, q_s5, iI_add, iI_sub, iI_mul, iI_neg, q_lt, q_le, q_eq, qz0, qz1, qz2, qz3, if_pos, if_neg, reduceIte])
  exact ⟨j, N, e, h1, h2⟩
theorem mt_13 (hH : H ≤ 9) (x1 : Int32) (M : gs_M) : ∃ j N, l_X12_mostBy_13 x1 (iI (((2 ^ H : Nat) : Int) - 1)) gs_FU (iI 0) M = some (j, N) ∧ (∀ x, x ≠ 165 → N x = M x) ∧ ∀ S, S < 2 ^ H → N 165 S = iI (if S = 0 then 0 else -1000000) := by
  have hp := q_2p H (by omega)
  have hp0 := Nat.two_pow_pos H
  obtain ⟨r, e, N, h1, h2, j, rfl⟩ := ma_up0 (fun f i (k : gs_M) => l_X12_mostBy_13 x1 (iI (((2 ^ H : Nat) : Int) - 1)) f i k) (2 ^ H)
    (fun J k => (∀ x, x ≠ 165 → k x = M x) ∧ ∀ S, S < J → k 165 S = iI (if S = 0 then 0 else -1000000))
    (fun r => ∃ N, (∀ x, x ≠ 165 → N x = M x) ∧ (∀ S, S < 2 ^ H → N 165 S = iI (if S = 0 then 0 else -1000000)) ∧ ∃ j, r = (j, N)) M (by omega) ⟨fun _ _ => rfl, fun S hS => by omega⟩
    (by
      rintro f J k hJ ⟨h1, h2⟩
      left
      have e5 : ∀ y, gs_wr k 165 512 (iI (J : Int)) y = some (gs_up k 165 J y) := fun y => by rw [q_wrn J rfl (by omega) (by decide)]
      refine ⟨gs_up k 165 J (iI (if J = 0 then 0 else -1000000)), ?_, fun x hx => by rw [ma_row_ne _ _ _ _ _ hx, h1 x hx], fun S hS => ?_⟩
      · simp only [l_X12_mostBy_13]
        by_cases d : J = 0
        · rw [if_pos d]
          simp (disch := omega) only [qn0, qn1, qn2, qn3, qn4, qn5, qn6, qn7, qn8, qn9, qn10, qn11, qn12, qn13, qn14, qn15, qn16, qn17, qn18, qn24, qn30, qn31, qn32, qn33, qn36, qn38, qn40, qn41, qn42, qn43, qn45, qn47, qn48, qn49, qn50, qn51, qn52, qn53, qn57, qn58, qn59, qn60, qn61, qn62, qn63, qn91, qn93, qn97, qn99, qn100, qn103, qn104, qn112, qn113, qn115, qn116, qn118, qn119, qn121, qn124, qn173, qn177, qn240, qn255, qn295, qn352, qn353, qn533, qn999, qn1000, qn1023, qn6561, qn10000, qn20787, qn1000000, qn252645135, qn858993459, qn1000000000, qn1431655765, q_s1, q_s2, q_s3, q_s4, q_s5, iI_add, iI_sub, iI_mul, iI_neg, q_lt, q_le, q_eq, qz0, qz1, qz2, qz3, if_pos, if_neg, reduceIte, e5]
        · rw [if_neg d]
          simp (disch := omega) only [qn0, qn1, qn2, qn3, qn4, qn5, qn6, qn7, qn8, qn9, qn10, qn11, qn12, qn13, qn14, qn15, qn16, qn17, qn18, qn24, qn30, qn31, qn32, qn33, qn36, qn38, qn40, qn41, qn42, qn43, qn45, qn47, qn48, qn49, qn50, qn51, qn52, qn53, qn57, qn58, qn59, qn60, qn61, qn62, qn63, qn91, qn93, qn97, qn99, qn100, qn103, qn104, qn112, qn113, qn115, qn116, qn118, qn119, qn121, qn124, qn173, qn177, qn240, qn255, qn295, qn352, qn353, qn533, qn999, qn1000, qn1023, qn6561, qn10000, qn20787, qn1000000, qn252645135, qn858993459, qn1000000000, qn1431655765, q_s1, q_s2, q_s3, q_s4, q_s5, iI_add, iI_sub, iI_mul, iI_neg, q_lt, q_le, q_eq, qz0, qz1, qz2, qz3, if_pos, if_neg, reduceIte, e5]
      · by_cases d : S = J
        · subst d
          rw [gs_up_eq]
        · rw [ma_cell_ne _ _ _ _ _ _ (by omega)]
          exact h2 S (by omega))
    (by
      rintro f k ⟨h1, h2⟩
      refine ⟨_, ?_, k, h1, h2, iI ((2 ^ H : Nat) : Int), rfl⟩
      simp only [l_X12_mostBy_13]
      simp (disch := omega) only [qn0, qn1, qn2, qn3, qn4, qn5, qn6, qn7, qn8, qn9, qn10, qn11, qn12, qn13, qn14, qn15, qn16, qn17, qn18, qn24, qn30, qn31, qn32, qn33, qn36, qn38, qn40, qn41, qn42, qn43, qn45, qn47, qn48, qn49, qn50, qn51, qn52, qn53, qn57, qn58, qn59, qn60, qn61, qn62, qn63, qn91, qn93, qn97, qn99, qn100, qn103, qn104, qn112, qn113, qn115, qn116, qn118, qn119, qn121, qn124, qn173, qn177, qn240, qn255, qn295, qn352, qn353, qn533, qn999, qn1000, qn1023, qn6561, qn10000, qn20787, qn1000000, qn252645135, qn858993459, qn1000000000, qn1431655765, q_s1, q_s2, q_s3, q_s4, q_s5, iI_add, iI_sub, iI_mul, iI_neg, q_lt, q_le, q_eq, qz0, qz1, qz2, qz3, if_pos, if_neg, reduceIte])
  exact ⟨j, N, e, h1, h2⟩
theorem tt_st_b (hH : H ≤ 9) (hg : ∀ p h, 0 ≤ g p h ∧ g p h ≤ 10) (K : Nat) {S : Nat} (hS : S < 2 ^ H) : -1000000 ≤ tt_st H n g fr fx K S ∧ tt_st H n g fr fx K S ≤ 90 := by
  obtain ⟨h1, -, h3⟩ := tt_tbs (H := H) (n := n) (fr := fr) (fx := fx) (fun p h => (hg p h).1) K S hS
  refine ⟨h3, ?_⟩
  rcases (by omega : 0 ≤ tt_st H n g fr fx K S ∨ tt_st H n g fr fx K S < 0) with c | c
  · obtain ⟨a, -, ha⟩ := h1 c
    have := tt_vl_b (H := H) hg S a
    omega
  · omega
/-- the model's most, some hours fixed -/
theorem mt_mb (hH : H ≤ 9) (hP : P ≤ 8) (hn : n ≤ 9) (hg : ∀ p h, 0 ≤ g p h ∧ g p h ≤ 10) (B : tm_B H P g fr fx M) : ∃ N, f_X12_mostBy M (iI (n : Int)) = some (iI (tt_st H n g fr fx P (2 ^ H - 1)), N) ∧ ∀ x, x ≠ 165 → x ≠ 166 → N x = M x := by
  have hp := q_2p H (by omega)
  have hp0 := Nat.two_pow_pos H
  have b1 := B.1
  have e0 : gs_rd M 152 3 (iI 0) = some (iI (H : Int)) := by rw [q_rdn (z := 0) 0 rfl (by decide) (by decide), b1]
  have e1 := q_shl H (by omega)
  obtain ⟨j1, N1, k1, k2, k3⟩ := mt_13 hH (iI (n : Int)) M
  have BN1 : tm_B H P g fr fx N1 := B.fz (fun x hx _ => k2 x hx)
  obtain ⟨r, e, N, h1, h2, j, rfl⟩ := ma_up0 (fun f i (k : gs_M) => l_X12_mostBy_43 (iI (n : Int)) (iI (((2 ^ H : Nat) : Int) - 1)) f i k) P
    (fun K k => (∀ x, x ≠ 165 → x ≠ 166 → k x = N1 x) ∧ ∀ S, S < 2 ^ H → k 165 S = iI (tt_st H n g fr fx K S))
    (fun r => ∃ N, (∀ x, x ≠ 165 → x ≠ 166 → N x = N1 x) ∧ (∀ S, S < 2 ^ H → N 165 S = iI (tt_st H n g fr fx P S)) ∧ ∃ j, r = (j, N)) N1 (by omega) ⟨fun _ _ _ => rfl, k3⟩
    (by
      rintro f K k hK ⟨h1, h2⟩
      left
      have BN : tm_B H P g fr fx k := BN1.fz h1
      have b2 := BN.2.1
      have e2 : f_X12_of k (iI (K : Int)) (iI 5) = some (iI (if fr K = true then 0 else 1)) := by
        have e3 : gs_rd k 158 533 (iI (6 * (K : Int) + 5)) = some (iI (if fr K = true then 0 else 1)) := by
          rw [q_rdn (6 * K + 5) (by omega) (by omega) (by decide), BN.2.2.1 K hK]
        unfold f_X12_of
        simp (disch := omega) only [qn0, qn1, qn2, qn3, qn4, qn5, qn6, qn7, qn8, qn9, qn10, qn11, qn12, qn13, qn14, qn15, qn16, qn17, qn18, qn24, qn30, qn31, qn32, qn33, qn36, qn38, qn40, qn41, qn42, qn43, qn45, qn47, qn48, qn49, qn50, qn51, qn52, qn53, qn57, qn58, qn59, qn60, qn61, qn62, qn63, qn91, qn93, qn97, qn99, qn100, qn103, qn104, qn112, qn113, qn115, qn116, qn118, qn119, qn121, qn124, qn173, qn177, qn240, qn255, qn295, qn352, qn353, qn533, qn999, qn1000, qn1023, qn6561, qn10000, qn20787, qn1000000, qn252645135, qn858993459, qn1000000000, qn1431655765, q_s1, q_s2, q_s3, q_s4, q_s5, iI_add, iI_sub, iI_mul, iI_neg, q_lt, q_le, q_eq, qz0, qz1, qz2, qz3, if_pos, if_neg, reduceIte, e3]
      by_cases c : fr K = true
      · rw [if_pos c] at e2
        obtain ⟨j2, N2, m1, m2, m3⟩ := m_b67 hH (iI (n : Int)) (iI (K : Int)) k
        have BN2 : tm_B H P g fr fx N2 := BN.fz (fun x _ hx => m2 x hx)
        obtain ⟨j3, N3, o1, o2, o3⟩ := m_b92 hH hP hn hg BN2 hK (t := tt_st H n g fr fx K) (fun S hS => by rw [m2 165 (by decide)]; exact h2 S hS) m3 (fun S hS => tt_st_b hH hg K hS)
        obtain ⟨j4, N4, q1, q2, q3⟩ := m_b199 hH (iI (n : Int)) (iI (K : Int)) N3
        have es : tt_st H n g fr fx (K + 1) = tt_ou H n g fx K (tt_st H n g fr fx K) (2 ^ H) := if_pos c
        refine ⟨N4, ?_, fun x hx hx2 => by rw [q2 x hx, o2 x hx2, m2 x hx2, h1 x hx hx2], fun S hS => by rw [q3 S hS, o3 S hS, es]⟩
        simp only [l_X12_mostBy_43]
        simp (disch := omega) only [qn0, qn1, qn2, qn3, qn4, qn5, qn6, qn7, qn8, qn9, qn10, qn11, qn12, qn13, qn14, qn15, qn16, qn17, qn18, qn24, qn30, qn31, qn32, qn33, qn36, qn38, qn40, qn41, qn42, qn43, qn45, qn47, qn48, qn49, qn50, qn51, qn52, qn53, qn57, qn58, qn59, qn60, qn61, qn62, qn63, qn91, qn93, qn97, qn99, qn100, qn103, qn104, qn112, qn113, qn115, qn116, qn118, qn119, qn121, qn124, qn173, qn177, qn240, qn255, qn295, qn352, qn353, qn533, qn999, qn1000, qn1023, qn6561, qn10000, qn20787, qn1000000, qn252645135, qn858993459, qn1000000000, qn1431655765, q_s1, q_s2, q_s3, q_s4, q_s5, iI_add, iI_sub, iI_mul, iI_neg, q_lt, q_le, q_eq, qz0, qz1, qz2, qz3, if_pos, if_neg, reduceIte, b2, e2, m1, o1, q1]
      · rw [if_neg c] at e2
        have es : tt_st H n g fr fx (K + 1) = tt_st H n g fr fx K := if_neg c
        refine ⟨k, ?_, h1, by rw [es]; exact h2⟩
        simp only [l_X12_mostBy_43]
        simp (disch := omega) only [qn0, qn1, qn2, qn3, qn4, qn5, qn6, qn7, qn8, qn9, qn10, qn11, qn12, qn13, qn14, qn15, qn16, qn17, qn18, qn24, qn30, qn31, qn32, qn33, qn36, qn38, qn40, qn41, qn42, qn43, qn45, qn47, qn48, qn49, qn50, qn51, qn52, qn53, qn57, qn58, qn59, qn60, qn61, qn62, qn63, qn91, qn93, qn97, qn99, qn100, qn103, qn104, qn112, qn113, qn115, qn116, qn118, qn119, qn121, qn124, qn173, qn177, qn240, qn255, qn295, qn352, qn353, qn533, qn999, qn1000, qn1023, qn6561, qn10000, qn20787, qn1000000, qn252645135, qn858993459, qn1000000000, qn1431655765, q_s1, q_s2, q_s3, q_s4, q_s5, iI_add, iI_sub, iI_mul, iI_neg, q_lt, q_le, q_eq, qz0, qz1, qz2, qz3, if_pos, if_neg, reduceIte, b2, e2])
    (by
      rintro f k ⟨h1, h2⟩
      have BN : tm_B H P g fr fx k := BN1.fz h1
      have b2 := BN.2.1
      refine ⟨_, ?_, k, h1, h2, iI (P : Int), rfl⟩
      simp only [l_X12_mostBy_43]
      simp (disch := omega) only [qn0, qn1, qn2, qn3, qn4, qn5, qn6, qn7, qn8, qn9, qn10, qn11, qn12, qn13, qn14, qn15, qn16, qn17, qn18, qn24, qn30, qn31, qn32, qn33, qn36, qn38, qn40, qn41, qn42, qn43, qn45, qn47, qn48, qn49, qn50, qn51, qn52, qn53, qn57, qn58, qn59, qn60, qn61, qn62, qn63, qn91, qn93, qn97, qn99, qn100, qn103, qn104, qn112, qn113, qn115, qn116, qn118, qn119, qn121, qn124, qn173, qn177, qn240, qn255, qn295, qn352, qn353, qn533, qn999, qn1000, qn1023, qn6561, qn10000, qn20787, qn1000000, qn252645135, qn858993459, qn1000000000, qn1431655765, q_s1, q_s2, q_s3, q_s4, q_s5, iI_add, iI_sub, iI_mul, iI_neg, q_lt, q_le, q_eq, qz0, qz1, qz2, qz3, if_pos, if_neg, reduceIte, b2])
  have e5 : gs_rd N 165 512 (iI (((2 ^ H : Nat) : Int) - 1)) = some (iI (tt_st H n g fr fx P (2 ^ H - 1))) := by
    rw [q_rdn (2 ^ H - 1) (by omega) (by omega) (by decide), h2 _ (by omega)]
  refine ⟨N, ?_, fun x hx hx2 => by rw [h1 x hx hx2, k2 x hx]⟩
  unfold f_X12_mostBy
  simp (disch := omega) only [qn0, qn1, qn2, qn3, qn4, qn5, qn6, qn7, qn8, qn9, qn10, qn11, qn12, qn13, qn14, qn15, qn16, qn17, qn18, qn24, qn30, qn31, qn32, qn33, qn36, qn38, qn40, qn41, qn42, qn43, qn45, qn47, qn48, qn49, qn50, qn51, qn52, qn53, qn57, qn58, qn59, qn60, qn61, qn62, qn63, qn91, qn93, qn97, qn99, qn100, qn103, qn104, qn112, qn113, qn115, qn116, qn118, qn119, qn121, qn124, qn173, qn177, qn240, qn255, qn295, qn352, qn353, qn533, qn999, qn1000, qn1023, qn6561, qn10000, qn20787, qn1000000, qn252645135, qn858993459, qn1000000000, qn1431655765, q_s1, q_s2, q_s3, q_s4, q_s5, iI_add, iI_sub, iI_mul, iI_neg, q_lt, q_le, q_eq, qz0, qz1, qz2, qz3, if_pos, if_neg, reduceIte, e0, e1, k1, e, e5]
end TT2
