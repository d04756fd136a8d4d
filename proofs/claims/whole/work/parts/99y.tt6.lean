/-! TIMETABLES: the class's answers -/
section TT6
variable {H P n : Nat} {g : Nat → Nat → Int} {fr : Nat → Bool} {M N : gs_M} {x : Nat}
theorem c_hrs {h : Int} (e : M 4 0 = iI h) : f_X9_hours M = some (iI h) := by
  have e1 : gs_rd M 4 3 (iI 0) = some (iI h) := by rw [q_rdn (z := 0) 0 rfl (by decide) (by decide), e]
  unfold f_X9_hours
  simp (disch := omega) only [qn0, qn1, qn2, qn3, qn4, qn5, qn6, qn7, qn8, qn9, qn10, qn11, qn12, qn13, qn14, qn15, qn16, qn17, qn18, qn24, qn30, qn31, qn32, qn33, qn36, qn38, qn40, qn41, qn42, qn43, qn45, qn47, qn48, qn49, qn50, qn51, qn52, qn53, qn57, qn58, qn59, qn60, qn61, qn62, qn63, qn91, qn93, qn97, qn99, qn100, qn103, qn104, qn112, qn113, qn115, qn116, qn118, qn119, qn121, qn124, qn173, qn177, qn240, qn255, qn295, qn352, qn353, qn533, qn999, qn1000, qn1023, qn6561, qn10000, qn20787, qn1000000, qn252645135, qn858993459, qn1000000000, qn1431655765, q_s1, q_s2, q_s3, q_s4, q_s5, iI_add, iI_sub, iI_mul, iI_neg, q_lt, q_le, q_eq, qz0, qz1, qz2, qz3, if_pos, if_neg, reduceIte, e1]
theorem c_bf (hq : n + 1 = 2 ∨ n + 1 = 3) (hH : H ≤ 9) (hP : P ≤ 8) (hg : ∀ p h, 0 ≤ g p h ∧ g p h ≤ 10) (B : tc_B H P n g fr M) (h4 : M 4 0 = iI (H : Int)) (hx : x < (n + 1) ^ tt_c fr P) (hb : ∀ y, x < y → y < (n + 1) ^ tt_c fr P → tt_sp H P n g fr y (tt_bt M y)) : ∃ v N, f_X8_bestFrom M (iI (x : Int)) = some (iI v, N) ∧ (∀ y, y ≠ 144 → N y = M y) ∧ tt_sp H P n g fr x v := by
  have hF := tt_c_b fr P
  have hpw := q_pw (n + 1) (by omega) (tt_c fr P) (by omega)
  obtain ⟨N, e1, h1, h2⟩ := c_spr hq hP B (x := x) (by omega)
  have BN : tc_B H P n g fr N := B.fz (fun y _ _ _ hy => h1 y hy)
  have e2 : f_X9_hours N = some (iI (H : Int)) := c_hrs (by rw [h1 4 (by decide)]; exact h4)
  have hbt : tt_bt N = tt_bt M := funext fun y => by
    unfold tt_bt
    rw [h1 141 (by decide)]
  rw [← hbt] at hb
  have b8 := BN.1
  by_cases c : tt_ds (n + 1) x (tt_c fr P) < H
  · obtain ⟨r, e, m, j, rfl, m1, m2, m3, m4⟩ := ma_up0 (fun f i (q : Int32) => l_X8_bestFrom_39 N (iI (x : Int)) (iI ((tt_ds (n + 1) x (tt_c fr P) : Nat) : Int)) f q i) (tt_c fr P)
      (fun i q => ∃ m, q = iI m ∧ -1 ≤ m ∧ m ≤ 100 ∧ (0 ≤ m → ∃ w, w < i ∧ tt_gb P n g fr (tt_bt N) x (tt_ds (n + 1) x (tt_c fr P)) w = m) ∧ ∀ w, w < i → tt_gb P n g fr (tt_bt N) x (tt_ds (n + 1) x (tt_c fr P)) w ≤ m)
      (fun r => ∃ m j, r = (iI m, j) ∧ -1 ≤ m ∧ m ≤ 100 ∧ (0 ≤ m → ∃ w, w < tt_c fr P ∧ tt_gb P n g fr (tt_bt N) x (tt_ds (n + 1) x (tt_c fr P)) w = m) ∧ ∀ w, w < tt_c fr P → tt_gb P n g fr (tt_bt N) x (tt_ds (n + 1) x (tt_c fr P)) w ≤ m) (iI (-1)) (by omega) ⟨-1, rfl, by decide, by decide, fun h => by omega, fun w hw => by omega⟩
      (by
        rintro f i q hi ⟨m, rfl, m1, m2, m3, m4⟩
        left
        have e3 := c_gby hq hH hP BN hx h2 hi c
        have e4 := tt_gb_b (H := H) hq hg hx hb hi (tt_ds (n + 1) x (tt_c fr P))
        by_cases d : m < tt_gb P n g fr (tt_bt N) x (tt_ds (n + 1) x (tt_c fr P)) i
        · refine ⟨iI (tt_gb P n g fr (tt_bt N) x (tt_ds (n + 1) x (tt_c fr P)) i), ?_, _, rfl, e4.1, e4.2, fun _ => ⟨i, by omega, rfl⟩, fun w hw => ?_⟩
          · simp only [l_X8_bestFrom_39]
            simp (disch := omega) only [qn0, qn1, qn2, qn3, qn4, qn5, qn6, qn7, qn8, qn9, qn10, qn11, qn12, qn13, qn14, qn15, qn16, qn17, qn18, qn24, qn30, qn31, qn32, qn33, qn36, qn38, qn40, qn41, qn42, qn43, qn45, qn47, qn48, qn49, qn50, qn51, qn52, qn53, qn57, qn58, qn59, qn60, qn61, qn62, qn63, qn91, qn93, qn97, qn99, qn100, qn103, qn104, qn112, qn113, qn115, qn116, qn118, qn119, qn121, qn124, qn173, qn177, qn240, qn255, qn295, qn352, qn353, qn533, qn999, qn1000, qn1023, qn6561, qn10000, qn20787, qn1000000, qn252645135, qn858993459, qn1000000000, qn1431655765, q_s1, q_s2, q_s3, q_s4, q_s5, iI_add, iI_sub, iI_mul, iI_neg, q_lt, q_le, q_eq, qz0, qz1, qz2, qz3, if_pos, if_neg, reduceIte, b8, e3]
          · rcases (by omega : w < i ∨ w = i) with k | k
            · have := m4 w k
              omega
            · subst k
              exact Int.le_refl _
        · refine ⟨iI m, ?_, m, rfl, m1, m2, fun h => ?_, fun w hw => ?_⟩
          · simp only [l_X8_bestFrom_39]
            simp (disch := omega) only [qn0, qn1, qn2, qn3, qn4, qn5, qn6, qn7, qn8, qn9, qn10, qn11, qn12, qn13, qn14, qn15, qn16, qn17, qn18, qn24, qn30, qn31, qn32, qn33, qn36, qn38, qn40, qn41, qn42, qn43, qn45, qn47, qn48, qn49, qn50, qn51, qn52, qn53, qn57, qn58, qn59, qn60, qn61, qn62, qn63, qn91, qn93, qn97, qn99, qn100, qn103, qn104, qn112, qn113, qn115, qn116, qn118, qn119, qn121, qn124, qn173, qn177, qn240, qn255, qn295, qn352, qn353, qn533, qn999, qn1000, qn1023, qn6561, qn10000, qn20787, qn1000000, qn252645135, qn858993459, qn1000000000, qn1431655765, q_s1, q_s2, q_s3, q_s4, q_s5, iI_add, iI_sub, iI_mul, iI_neg, q_lt, q_le, q_eq, qz0, qz1, qz2, qz3, if_pos, if_neg, reduceIte, b8, e3]
          · obtain ⟨w, w1, w2⟩ := m3 h
            exact ⟨w, by omega, w2⟩
          · rcases (by omega : w < i ∨ w = i) with k | k
            · exact m4 w k
            · subst k
              omega)
      (by
        rintro f q ⟨m, rfl, m1, m2, m3, m4⟩
        refine ⟨(iI m, iI ((tt_c fr P : Nat) : Int)), ?_, m, _, rfl, m1, m2, m3, m4⟩
        simp only [l_X8_bestFrom_39]
        simp (disch := omega) only [qn0, qn1, qn2, qn3, qn4, qn5, qn6, qn7, qn8, qn9, qn10, qn11, qn12, qn13, qn14, qn15, qn16, qn17, qn18, qn24, qn30, qn31, qn32, qn33, qn36, qn38, qn40, qn41, qn42, qn43, qn45, qn47, qn48, qn49, qn50, qn51, qn52, qn53, qn57, qn58, qn59, qn60, qn61, qn62, qn63, qn91, qn93, qn97, qn99, qn100, qn103, qn104, qn112, qn113, qn115, qn116, qn118, qn119, qn121, qn124, qn173, qn177, qn240, qn255, qn295, qn352, qn353, qn533, qn999, qn1000, qn1023, qn6561, qn10000, qn20787, qn1000000, qn252645135, qn858993459, qn1000000000, qn1431655765, q_s1, q_s2, q_s3, q_s4, q_s5, iI_add, iI_sub, iI_mul, iI_neg, q_lt, q_le, q_eq, qz0, qz1, qz2, qz3, if_pos, if_neg, reduceIte, b8])
    have e' : l_X8_bestFrom_39 N (iI (x : Int)) (iI ((tt_ds (n + 1) x (tt_c fr P) : Nat) : Int)) gs_FU (iI (-1)) (iI 0) = some (iI m, j) := e
    refine ⟨m, N, ?_, h1, tt_spb hq hH hg hx hb c m1 m3 m4⟩
    unfold f_X8_bestFrom
    simp (disch := omega) only [qn0, qn1, qn2, qn3, qn4, qn5, qn6, qn7, qn8, qn9, qn10, qn11, qn12, qn13, qn14, qn15, qn16, qn17, qn18, qn24, qn30, qn31, qn32, qn33, qn36, qn38, qn40, qn41, qn42, qn43, qn45, qn47, qn48, qn49, qn50, qn51, qn52, qn53, qn57, qn58, qn59, qn60, qn61, qn62, qn63, qn91, qn93, qn97, qn99, qn100, qn103, qn104, qn112, qn113, qn115, qn116, qn118, qn119, qn121, qn124, qn173, qn177, qn240, qn255, qn295, qn352, qn353, qn533, qn999, qn1000, qn1023, qn6561, qn10000, qn20787, qn1000000, qn252645135, qn858993459, qn1000000000, qn1431655765, q_s1, q_s2, q_s3, q_s4, q_s5, iI_add, iI_sub, iI_mul, iI_neg, q_lt, q_le, q_eq, qz0, qz1, qz2, qz3, if_pos, if_neg, reduceIte, e1, e2, e']
  · have hds : tt_ds (n + 1) x (tt_c fr P) ≤ 100 := by
      have key : ∀ F, tt_ds (n + 1) x F ≤ 2 * F := by
        intro F
        induction F with
        | zero => exact Nat.le_refl _
        | succ F ih =>
          simp only [tt_ds]
          have := tt_dgb (i := F) (x := x) hq
          omega
      have := key (tt_c fr P)
      omega
    refine ⟨if tt_ds (n + 1) x (tt_c fr P) = H then 0 else -1, N, ?_, h1, tt_sp0 hq (by omega)⟩
    unfold f_X8_bestFrom
    by_cases d : tt_ds (n + 1) x (tt_c fr P) = H
    · rw [if_pos d]
      simp (disch := omega) only [qn0, qn1, qn2, qn3, qn4, qn5, qn6, qn7, qn8, qn9, qn10, qn11, qn12, qn13, qn14, qn15, qn16, qn17, qn18, qn24, qn30, qn31, qn32, qn33, qn36, qn38, qn40, qn41, qn42, qn43, qn45, qn47, qn48, qn49, qn50, qn51, qn52, qn53, qn57, qn58, qn59, qn60, qn61, qn62, qn63, qn91, qn93, qn97, qn99, qn100, qn103, qn104, qn112, qn113, qn115, qn116, qn118, qn119, qn121, qn124, qn173, qn177, qn240, qn255, qn295, qn352, qn353, qn533, qn999, qn1000, qn1023, qn6561, qn10000, qn20787, qn1000000, qn252645135, qn858993459, qn1000000000, qn1431655765, q_s1, q_s2, q_s3, q_s4, q_s5, iI_add, iI_sub, iI_mul, iI_neg, q_lt, q_le, q_eq, qz0, qz1, qz2, qz3, if_pos, if_neg, reduceIte, e1, e2]
    · rw [if_neg d]
      simp (disch := omega) only [qn0, qn1, qn2, qn3, qn4, qn5, qn6, qn7, qn8, qn9, qn10, qn11, qn12, qn13, qn14, qn15, qn16, qn17, qn18, qn24, qn30, qn31, qn32, qn33, qn36, qn38, qn40, qn41, qn42, qn43, qn45, qn47, qn48, qn49, qn50, qn51, qn52, qn53, qn57, qn58, qn59, qn60, qn61, qn62, qn63, qn91, qn93, qn97, qn99, qn100, qn103, qn104, qn112, qn113, qn115, qn116, qn118, qn119, qn121, qn124, qn173, qn177, qn240, qn255, qn295, qn352, qn353, qn533, qn999, qn1000, qn1023, qn6561, qn10000, qn20787, qn1000000, qn252645135, qn858993459, qn1000000000, qn1431655765, q_s1, q_s2, q_s3, q_s4, q_s5, iI_add, iI_sub, iI_mul, iI_neg, q_lt, q_le, q_eq, qz0, qz1, qz2, qz3, if_pos, if_neg, reduceIte, e1, e2]
theorem iv_144 (h : ∀ y, y ≠ 144 → N y = M y) : iv_co M N := fun a b e => by
  rw [h a (by rintro rfl; rw [iv_scr_t (by omega)] at e; cases e)]
theorem c_tfl (hq : n + 1 = 2 ∨ n + 1 = 3) (hH : H ≤ 9) (hP : P ≤ 8) (hg : ∀ p h, 0 ≤ g p h ∧ g p h ≤ 10) (x1 x2 : Int32) : ∀ (d f : Nat) (k : gs_M), d ≤ (n + 1) ^ tt_c fr P → tc_B H P n g fr k → k 4 0 = iI (H : Int) → iv_co M k → (∀ y, d ≤ y → y < (n + 1) ^ tt_c fr P → tt_sp H P n g fr y (tt_bt k y)) → d < f → ∃ j N, l_X8_fill_14 x1 x2 f (iI ((d : Int) - 1)) k = some (j, N) ∧ tc_B H P n g fr N ∧ N 4 0 = iI (H : Int) ∧ iv_co M N ∧ ∀ y, y < (n + 1) ^ tt_c fr P → tt_sp H P n g fr y (tt_bt N y) := by
  have hF := tt_c_b fr P
  have hpw := q_pw (n + 1) (by omega) (tt_c fr P) (by omega)
  intro d
  induction d with
  | zero =>
    intro f k hd B h4 hco hs hf
    obtain ⟨f, rfl⟩ : ∃ m, f = m + 1 := ⟨f - 1, by omega⟩
    refine ⟨iI (-1), k, ?_, B, h4, hco, fun y hy => hs y (by omega) hy⟩
    have e : iI (((0 : Nat) : Int) - 1) = iI (-1) := rfl
    rw [e, l_X8_fill_14]
    simp (disch := omega) only [qn0, qn1, qn2, qn3, qn4, qn5, qn6, qn7, qn8, qn9, qn10, qn11, qn12, qn13, qn14, qn15, qn16, qn17, qn18, qn24, qn30, qn31, qn32, qn33, qn36, qn38, qn40, qn41, qn42, qn43, qn45, qn47, qn48, qn49, qn50, qn51, qn52, qn53, qn57, qn58, qn59, qn60, qn61, qn62, qn63, qn91, qn93, qn97, qn99, qn100, qn103, qn104, qn112, qn113, qn115, qn116, qn118, qn119, qn121, qn124, qn173, qn177, qn240, qn255, qn295, qn352, qn353, qn533, qn999, qn1000, qn1023, qn6561, qn10000, qn20787, qn1000000, qn252645135, qn858993459, qn1000000000, qn1431655765, q_s1, q_s2, q_s3, q_s4, q_s5, iI_add, iI_sub, iI_mul, iI_neg, q_lt, q_le, q_eq, qz0, qz1, qz2, qz3, if_pos, if_neg, reduceIte]
  | succ d ih =>
    intro f k hd B h4 hco hs hf
    obtain ⟨f, rfl⟩ : ∃ m, f = m + 1 := ⟨f - 1, by omega⟩
    obtain ⟨v, N1, e1, h1, hv⟩ := c_bf hq hH hP hg B h4 (x := d) (by omega) (fun y hy hy2 => hs y (by omega) hy2)
    have e5 : gs_wr N1 141 6561 (iI (d : Int)) (iI v) = some (gs_up N1 141 d (iI v)) := by rw [q_wrn d rfl (by omega) (by decide)]
    have hd1 : (((d + 1 : Nat) : Int) - 1) = (d : Int) := by omega
    have B1 : tc_B H P n g fr (gs_up N1 141 d (iI v)) := B.fz (fun y _ _ hy hy2 => by rw [ma_row_ne _ _ _ _ _ hy, h1 y hy2])
    obtain ⟨j, N2, k1, k2⟩ := ih f (gs_up N1 141 d (iI v)) (by omega) B1 (by rw [ma_row_ne _ _ _ _ _ (by decide), h1 4 (by decide)]; exact h4) ((hco.tr (iv_144 h1)).up _ (iv_scr_t (by omega))) (fun y hy hy2 => by
      by_cases c : y = d
      · subst c
        have : tt_bt (gs_up N1 141 y (iI v)) y = v := by
          unfold tt_bt
          rw [gs_up_eq, iI_toInt (by have := hv.1; omega) (by have := hv.2.1; omega)]
        rw [this]
        exact hv
      · have : tt_bt (gs_up N1 141 d (iI v)) y = tt_bt k y := by
          unfold tt_bt
          rw [ma_cell_ne _ _ _ _ _ _ (by omega), h1 141 (by decide)]
        rw [this]
        exact hs y (by omega) hy2) (by omega)
    refine ⟨j, N2, ?_, k2⟩
    have hm : (d : Int) + -1 = (d : Int) - 1 := by omega
    rw [hd1, l_X8_fill_14]
    simp (disch := omega) only [qn0, qn1, qn2, qn3, qn4, qn5, qn6, qn7, qn8, qn9, qn10, qn11, qn12, qn13, qn14, qn15, qn16, qn17, qn18, qn24, qn30, qn31, qn32, qn33, qn36, qn38, qn40, qn41, qn42, qn43, qn45, qn47, qn48, qn49, qn50, qn51, qn52, qn53, qn57, qn58, qn59, qn60, qn61, qn62, qn63, qn91, qn93, qn97, qn99, qn100, qn103, qn104, qn112, qn113, qn115, qn116, qn118, qn119, qn121, qn124, qn173, qn177, qn240, qn255, qn295, qn352, qn353, qn533, qn999, qn1000, qn1023, qn6561, qn10000, qn20787, qn1000000, qn252645135, qn858993459, qn1000000000, qn1431655765, q_s1, q_s2, q_s3, q_s4, q_s5, iI_add, iI_sub, iI_mul, iI_neg, q_lt, q_le, q_eq, qz0, qz1, qz2, qz3, if_pos, if_neg, reduceIte, e1, e5, hm, k1]
/-- the first of the best, behind spread -/
theorem c_l26 (hq : n + 1 = 2 ∨ n + 1 = 3) (hH : H ≤ 9) (hP : P ≤ 8) (hg : ∀ p h, 0 ≤ g p h ∧ g p h ≤ 10) (B : tc_B H P n g fr M) (hx : x < (n + 1) ^ tt_c fr P) (h4 : ∀ i, i < tt_c fr P → M 144 i = iI ((tt_dg (n + 1) i x : Nat) : Int)) {h0 : Nat} (hh : h0 < H) (hb : ∀ y, y < (n + 1) ^ tt_c fr P → tt_sp H P n g fr y (tt_bt M y)) (hex : ∃ w, w < tt_c fr P ∧ tt_gb P n g fr (tt_bt M) x h0 w = tt_bt M x) (x2 : Int32) : ∃ w : Nat, l_X8_leastRow_26 M (iI (x : Int)) x2 (iI (h0 : Int)) gs_FU (iI 0) = some (iI (w : Int)) ∧ w < tt_c fr P ∧ tt_gb P n g fr (tt_bt M) x h0 w = tt_bt M x ∧ ∀ w', w' < w → tt_gb P n g fr (tt_bt M) x h0 w' ≠ tt_bt M x := by
  have hF := tt_c_b fr P
  have hpw := q_pw (n + 1) (by omega) (tt_c fr P) (by omega)
  have b8 := B.1
  obtain ⟨w0, w1, w2⟩ := hex
  have e0 : gs_rd M 141 6561 (iI (x : Int)) = some (iI (tt_bt M x)) := by rw [q_rdn x rfl (by omega) (by decide), tt_bt_c M]
  have sx := hb x hx
  obtain ⟨r, e, w, rfl, k1, k2, k3⟩ := ma_up0 (fun f i (_ : Unit) => l_X8_leastRow_26 M (iI (x : Int)) x2 (iI (h0 : Int)) f i) (tt_c fr P - 1)
    (fun i _ => ∀ w', w' < i → tt_gb P n g fr (tt_bt M) x h0 w' ≠ tt_bt M x)
    (fun r => ∃ w : Nat, r = iI (w : Int) ∧ w < tt_c fr P ∧ tt_gb P n g fr (tt_bt M) x h0 w = tt_bt M x ∧ ∀ w', w' < w → tt_gb P n g fr (tt_bt M) x h0 w' ≠ tt_bt M x) () (by omega) (fun w' hw' => by omega)
    (by
      intro f i _ hi hP'
      have e3 := c_gby hq hH hP B hx h4 (v := i) (by omega) hh
      have e4 := tt_gb_b (H := H) (b := tt_bt M) hq hg hx (fun y _ hy => hb y hy) (v := i) (by omega) h0
      have s1 := sx.1
      have s2 := sx.2.1
      by_cases c : tt_gb P n g fr (tt_bt M) x h0 i = tt_bt M x
      · right
        refine ⟨_, ?_, i, rfl, by omega, c, hP'⟩
        rw [c] at e3
        simp only [l_X8_leastRow_26]
        simp (disch := omega) only [qn0, qn1, qn2, qn3, qn4, qn5, qn6, qn7, qn8, qn9, qn10, qn11, qn12, qn13, qn14, qn15, qn16, qn17, qn18, qn24, qn30, qn31, qn32, qn33, qn36, qn38, qn40, qn41, qn42, qn43, qn45, qn47, qn48, qn49, qn50, qn51, qn52, qn53, qn57, qn58, qn59, qn60, qn61, qn62, qn63, qn91, qn93, qn97, qn99, qn100, qn103, qn104, qn112, qn113, qn115, qn116, qn118, qn119, qn121, qn124, qn173, qn177, qn240, qn255, qn295, qn352, qn353, qn533, qn999, qn1000, qn1023, qn6561, qn10000, qn20787, qn1000000, qn252645135, qn858993459, qn1000000000, qn1431655765, q_s1, q_s2, q_s3, q_s4, q_s5, iI_add, iI_sub, iI_mul, iI_neg, q_lt, q_le, q_eq, qz0, qz1, qz2, qz3, if_pos, if_neg, reduceIte, b8, e3, e0]
      · left
        refine ⟨(), ?_, fun w' hw' => ?_⟩
        · simp only [l_X8_leastRow_26]
          simp (disch := omega) only [qn0, qn1, qn2, qn3, qn4, qn5, qn6, qn7, qn8, qn9, qn10, qn11, qn12, qn13, qn14, qn15, qn16, qn17, qn18, qn24, qn30, qn31, qn32, qn33, qn36, qn38, qn40, qn41, qn42, qn43, qn45, qn47, qn48, qn49, qn50, qn51, qn52, qn53, qn57, qn58, qn59, qn60, qn61, qn62, qn63, qn91, qn93, qn97, qn99, qn100, qn103, qn104, qn112, qn113, qn115, qn116, qn118, qn119, qn121, qn124, qn173, qn177, qn240, qn255, qn295, qn352, qn353, qn533, qn999, qn1000, qn1023, qn6561, qn10000, qn20787, qn1000000, qn252645135, qn858993459, qn1000000000, qn1431655765, q_s1, q_s2, q_s3, q_s4, q_s5, iI_add, iI_sub, iI_mul, iI_neg, q_lt, q_le, q_eq, qz0, qz1, qz2, qz3, if_pos, if_neg, reduceIte, b8, e3, e0]
        · rcases (by omega : w' < i ∨ w' = i) with d | d
          · exact hP' w' d
          · subst d
            exact c)
    (by
      intro f _ hP'
      have hw0 : w0 = tt_c fr P - 1 := by
        rcases (by omega : w0 < tt_c fr P - 1 ∨ w0 = tt_c fr P - 1) with d | d
        · exact absurd w2 (hP' w0 d)
        · exact d
      refine ⟨_, ?_, tt_c fr P - 1, rfl, by omega, by rw [← hw0]; exact w2, hP'⟩
      simp only [l_X8_leastRow_26]
      simp (disch := omega) only [qn0, qn1, qn2, qn3, qn4, qn5, qn6, qn7, qn8, qn9, qn10, qn11, qn12, qn13, qn14, qn15, qn16, qn17, qn18, qn24, qn30, qn31, qn32, qn33, qn36, qn38, qn40, qn41, qn42, qn43, qn45, qn47, qn48, qn49, qn50, qn51, qn52, qn53, qn57, qn58, qn59, qn60, qn61, qn62, qn63, qn91, qn93, qn97, qn99, qn100, qn103, qn104, qn112, qn113, qn115, qn116, qn118, qn119, qn121, qn124, qn173, qn177, qn240, qn255, qn295, qn352, qn353, qn533, qn999, qn1000, qn1023, qn6561, qn10000, qn20787, qn1000000, qn252645135, qn858993459, qn1000000000, qn1431655765, q_s1, q_s2, q_s3, q_s4, q_s5, iI_add, iI_sub, iI_mul, iI_neg, q_lt, q_le, q_eq, qz0, qz1, qz2, qz3, if_pos, if_neg, reduceIte, b8])
  exact ⟨w, e, k1, k2, k3⟩
/-- the least of the best rows -/
theorem c_lr (hq : n + 1 = 2 ∨ n + 1 = 3) (hH : H ≤ 9) (hP : P ≤ 8) (hg : ∀ p h, 0 ≤ g p h ∧ g p h ≤ 10) (B : tc_B H P n g fr M) (h4 : M 4 0 = iI (H : Int)) (hb : ∀ y, y < (n + 1) ^ tt_c fr P → tt_sp H P n g fr y (tt_bt M y)) (h0 : 0 ≤ tt_bt M 0) : ∃ d N, f_X8_leastRow M = some (iI (tt_dn d H), N) ∧ (∀ y, y ≠ 144 → N y = M y) ∧ (∀ j, j < H → d j < P) ∧ ∀ h, h < H → tt_ex H P n g fr (tt_bt M 0) d h (d h) ∧ ∀ y, y < d h → ¬ tt_ex H P n g fr (tt_bt M 0) d h y := by
  have hF := tt_c_b fr P
  have hpw := q_pw (n + 1) (by omega) (tt_c fr P) (by omega)
  have hp0 : 0 < (n + 1) ^ tt_c fr P := Nat.pow_pos (by omega)
  obtain ⟨r, e, d, N, j1, j2, rfl, k1, k2, k3⟩ := ma_up0 (fun f i (q : Int32 × Int32 × gs_M) => l_X8_leastRow_6 f q.1 q.2.1 i q.2.2) H
    (fun i q => ∃ d x, q.1 = iI ((x : Nat) : Int) ∧ q.2.1 = iI (tt_dn d i) ∧ (∀ y, y ≠ 144 → q.2.2 y = M y) ∧ x < (n + 1) ^ tt_c fr P ∧ tt_ds (n + 1) x (tt_c fr P) = i ∧ tt_pf P n fr d i x ∧ 0 ≤ tt_bt M x ∧ ma_sm i (fun j => g (d j) j) + tt_bt M x = tt_bt M 0 ∧ ∀ h, h < i → tt_ex H P n g fr (tt_bt M 0) d h (d h) ∧ ∀ y, y < d h → ¬ tt_ex H P n g fr (tt_bt M 0) d h y)
    (fun r => ∃ d N j1 j2, r = (j1, iI (tt_dn d H), j2, N) ∧ (∀ y, y ≠ 144 → N y = M y) ∧ (∀ j, j < H → d j < P) ∧ ∀ h, h < H → tt_ex H P n g fr (tt_bt M 0) d h (d h) ∧ ∀ y, y < d h → ¬ tt_ex H P n g fr (tt_bt M 0) d h y) (iI 0, iI 0, M) (by omega) ⟨fun _ => 0, 0, rfl, rfl, fun _ _ => rfl, hp0, tt_ds0 _ _, tt_pf0 _, h0, Int.zero_add _, fun h hh => by omega⟩
    (by
      rintro f i ⟨q1, q2, k⟩ hi ⟨d, x, hq1, hq2, g1, g2, g3, g4, g5, g6, g7⟩
      simp only at hq1 hq2 g1
      subst hq1 hq2
      left
      have Bk : tc_B H P n g fr k := B.fz (fun y _ _ _ hy => g1 y hy)
      obtain ⟨N1, e1, h1, h2⟩ := c_spr hq hP Bk (x := x) (by omega)
      have BN : tc_B H P n g fr N1 := Bk.fz (fun y _ _ _ hy => h1 y hy)
      have hN : ∀ y, y ≠ 144 → N1 y = M y := fun y hy => (h1 y hy).trans (g1 y hy)
      have e2 : f_X9_hours k = some (iI (H : Int)) := c_hrs (by rw [g1 4 (by decide)]; exact h4)
      have hbt : tt_bt N1 = tt_bt M := funext fun y => by
        unfold tt_bt
        rw [hN 141 (by decide)]
      have hexi := tt_exi (v := tt_bt M 0) (d := d) hq hg g2 hb (by omega) (by rw [g3]; exact g4) g5 (by rw [g3]; exact g6)
      rw [g3] at hexi
      have hex : ∃ w, w < tt_c fr P ∧ tt_gb P n g fr (tt_bt N1) x i w = tt_bt N1 x := by
        have s3 := (hb x g2).2.2 (by omega)
        rw [g3] at s3
        obtain ⟨r, r1, r2⟩ := s3.1 g5
        obtain ⟨z1, z2⟩ := tt_join (g := g) (by omega) g4 r1
        obtain ⟨w, w1, -, w3⟩ := (hexi (r i)).1 ⟨_, z1, fun j hj => if_pos hj, if_neg (Nat.lt_irrefl _), by rw [z2, r2]; exact g6⟩
        rw [hbt]
        exact ⟨w, w1, w3⟩
      obtain ⟨w, v1, v2, v3, v4⟩ := c_l26 hq hH hP hg BN g2 h2 hi (by rw [hbt]; exact hb) hex (iI (tt_dn d i))
      rw [hbt] at v3 v4
      obtain ⟨b3, b4, -⟩ := BN.2.2 w v2
      have e5 : gs_rd N1 143 8 (iI (w : Int)) = some (iI ((tt_wl fr w P : Nat) : Int)) := by rw [q_rdn w rfl (by omega) (by decide), b3]
      have e6 : gs_rd N1 142 8 (iI (w : Int)) = some (iI (((n + 1) ^ w : Nat) : Int)) := by rw [q_rdn w rfl (by omega) (by decide), b4]
      have hgb := tt_gbu (g := g) hq g2 hb (show tt_ds (n + 1) x (tt_c fr P) < H by omega) v2 (by rw [g3, v3]; exact g5)
      rw [g3] at hgb
      obtain ⟨u1, u2, u3, -⟩ := hgb
      have hdc : ∀ j, j < i → d j = (fun j => if j = i then tt_wl fr w P else d j) j := fun j hj => (if_neg (by omega)).symm
      refine ⟨(iI ((x + (n + 1) ^ w : Nat) : Int), iI (tt_dn (fun j => if j = i then tt_wl fr w P else d j) (i + 1)), N1), ?_, fun j => if j = i then tt_wl fr w P else d j, x + (n + 1) ^ w, rfl, rfl, hN, tt_plt hq u1 v2 g2, ?_, tt_pfs hq g4 v2 u1, u2, ?_, fun h hh => ?_⟩
      · have ed : tt_dn (fun j => if j = i then tt_wl fr w P else d j) (i + 1) = tt_dn d i * 10 + ((tt_wl fr w P : Nat) : Int) := by
          show tt_dn (fun j => if j = i then tt_wl fr w P else d j) i * 10 + (((if i = i then tt_wl fr w P else d i) : Nat) : Int) = _
          rw [if_pos rfl, ← tt_dn_c hdc]
        have ex : (((x + (n + 1) ^ w : Nat) : Int)) = (x : Int) + (((n + 1) ^ w : Nat) : Int) := Int.natCast_add _ _
        rw [ed, ex]
        simp only [l_X8_leastRow_6]
        simp (disch := omega) only [qn0, qn1, qn2, qn3, qn4, qn5, qn6, qn7, qn8, qn9, qn10, qn11, qn12, qn13, qn14, qn15, qn16, qn17, qn18, qn24, qn30, qn31, qn32, qn33, qn36, qn38, qn40, qn41, qn42, qn43, qn45, qn47, qn48, qn49, qn50, qn51, qn52, qn53, qn57, qn58, qn59, qn60, qn61, qn62, qn63, qn91, qn93, qn97, qn99, qn100, qn103, qn104, qn112, qn113, qn115, qn116, qn118, qn119, qn121, qn124, qn173, qn177, qn240, qn255, qn295, qn352, qn353, qn533, qn999, qn1000, qn1023, qn6561, qn10000, qn20787, qn1000000, qn252645135, qn858993459, qn1000000000, qn1431655765, q_s1, q_s2, q_s3, q_s4, q_s5, iI_add, iI_sub, iI_mul, iI_neg, q_lt, q_le, q_eq, qz0, qz1, qz2, qz3, if_pos, if_neg, reduceIte, e2, e1, v1, e5, e6]
      · rw [tt_dsi hq u1, if_pos v2, g3]
      · have e7 : ma_sm (i + 1) (fun j => g ((fun j => if j = i then tt_wl fr w P else d j) j) j) = ma_sm i (fun j => g (d j) j) + g (tt_wl fr w P) i := by
          show ma_sm i _ + g (if i = i then tt_wl fr w P else d i) i = _
          rw [if_pos rfl, ma_sm_c (g := fun j => g (d j) j) (fun j hj => by rw [← hdc j hj])]
        rw [e7]
        omega
      · rcases (by omega : h < i ∨ h = i) with c | c
        · obtain ⟨z1, z2⟩ := g7 h c
          rw [← hdc h c]
          refine ⟨tt_ex_c (fun j hj => hdc j (by omega)) z1, fun y hy hex => z2 y hy (tt_ex_c (fun j hj => (hdc j (by omega)).symm) hex)⟩
        · subst c
          have ei : (fun j => if j = h then tt_wl fr w P else d j) h = tt_wl fr w P := if_pos rfl
          rw [ei]
          refine ⟨tt_ex_c hdc ((hexi _).2 ⟨w, v2, rfl, v3⟩), fun y hy hex => ?_⟩
          obtain ⟨w', y1, rfl, y3⟩ := (hexi y).1 (tt_ex_c (fun j hj => (hdc j hj).symm) hex)
          rcases (by omega : w' < w ∨ w ≤ w') with z | z
          · exact v4 w' z y3
          · have := tt_wl_m v2 y1 z
            omega)
    (by
      rintro f ⟨q1, q2, k⟩ ⟨d, x, hq1, hq2, g1, g2, g3, g4, g5, g6, g7⟩
      simp only at hq1 hq2 g1
      subst hq1 hq2
      have e2 : f_X9_hours k = some (iI (H : Int)) := c_hrs (by rw [g1 4 (by decide)]; exact h4)
      refine ⟨(iI ((x : Nat) : Int), iI (tt_dn d H), iI (H : Int), k), ?_, d, k, _, _, rfl, g1, fun j hj => (g4.1 j hj).1, g7⟩
      simp only [l_X8_leastRow_6]
      simp (disch := omega) only [qn0, qn1, qn2, qn3, qn4, qn5, qn6, qn7, qn8, qn9, qn10, qn11, qn12, qn13, qn14, qn15, qn16, qn17, qn18, qn24, qn30, qn31, qn32, qn33, qn36, qn38, qn40, qn41, qn42, qn43, qn45, qn47, qn48, qn49, qn50, qn51, qn52, qn53, qn57, qn58, qn59, qn60, qn61, qn62, qn63, qn91, qn93, qn97, qn99, qn100, qn103, qn104, qn112, qn113, qn115, qn116, qn118, qn119, qn121, qn124, qn173, qn177, qn240, qn255, qn295, qn352, qn353, qn533, qn999, qn1000, qn1023, qn6561, qn10000, qn20787, qn1000000, qn252645135, qn858993459, qn1000000000, qn1431655765, q_s1, q_s2, q_s3, q_s4, q_s5, iI_add, iI_sub, iI_mul, iI_neg, q_lt, q_le, q_eq, qz0, qz1, qz2, qz3, if_pos, if_neg, reduceIte, e2])
  have e' : l_X8_leastRow_6 gs_FU (iI 0) (iI 0) (iI 0) M = some (j1, iI (tt_dn d H), j2, N) := e
  refine ⟨d, N, ?_, k1, k2, k3⟩
  unfold f_X8_leastRow
  simp (disch := omega) only [qn0, qn1, qn2, qn3, qn4, qn5, qn6, qn7, qn8, qn9, qn10, qn11, qn12, qn13, qn14, qn15, qn16, qn17, qn18, qn24, qn30, qn31, qn32, qn33, qn36, qn38, qn40, qn41, qn42, qn43, qn45, qn47, qn48, qn49, qn50, qn51, qn52, qn53, qn57, qn58, qn59, qn60, qn61, qn62, qn63, qn91, qn93, qn97, qn99, qn100, qn103, qn104, qn112, qn113, qn115, qn116, qn118, qn119, qn121, qn124, qn173, qn177, qn240, qn255, qn295, qn352, qn353, qn533, qn999, qn1000, qn1023, qn6561, qn10000, qn20787, qn1000000, qn252645135, qn858993459, qn1000000000, qn1431655765, q_s1, q_s2, q_s3, q_s4, q_s5, iI_add, iI_sub, iI_mul, iI_neg, q_lt, q_le, q_eq, qz0, qz1, qz2, qz3, if_pos, if_neg, reduceIte, e']
end TT6
