/-! TIMETABLES: the class's table -/
def tt_fr (s : Nat → Int) : Nat → Bool := fun p => decide (s (6 * p + 5) = 0)
def tt_g (s : Nat → Int) (T : Nat → Nat → Int) (V : ma_V) : Nat → Nat → Int := fun p h => 10 - ma_now s T V p h
theorem tt_g_b (s : Nat → Int) (T : Nat → Nat → Int) (V : ma_V) (p h : Nat) : 0 ≤ tt_g s T V p h ∧ tt_g s T V p h ≤ 10 := by
  have := ma_now_b s T V p h
  unfold tt_g
  omega
theorem q_pw : ∀ q : Nat, q < 4 → ∀ F : Nat, F < 9 → q ^ F ≤ 6561 := by decide
theorem tt_cm {q a : Nat} (hq : q = 2 ∨ q = 3) : (a : Int) % (q : Int) = ((a % q : Nat) : Int) ∧ (a : Int).tdiv (q : Int) = ((a / q : Nat) : Int) := by
  rw [q_tdiv (by omega)]
  rcases hq with rfl | rfl
  · omega
  · omega
theorem tt_rd {q a : Nat} (hq : q = 2 ∨ q = 3) (ha : a < 6561) : gs_rm9 (iI (a : Int)) (iI (q : Int)) = some (iI ((a % q : Nat) : Int)) ∧ gs_dv (iI (a : Int)) (iI (q : Int)) = some (iI ((a / q : Nat) : Int)) := by
  have h := tt_cm (a := a) hq
  rw [q_rm (by omega), q_dv (by omega), h.1, h.2]
  exact ⟨rfl, rfl⟩
/-- the class's lists behind gather -/
def tc_B (H P n : Nat) (g : Nat → Nat → Int) (fr : Nat → Bool) (M : gs_M) : Prop := M 140 8 = iI ((tt_c fr P : Nat) : Int) ∧ M 140 9 = iI (n : Int) ∧ ∀ w, w < tt_c fr P → M 143 w = iI ((tt_wl fr w P : Nat) : Int) ∧ M 142 w = iI (((n + 1) ^ w : Nat) : Int) ∧ ∀ h, h < H → M 145 (9 * w + h) = iI (g (tt_wl fr w P) h)
theorem tc_B.fz {H P n : Nat} {g : Nat → Nat → Int} {fr : Nat → Bool} {M N : gs_M} (B : tc_B H P n g fr M) (h : ∀ x, 140 ≤ x → x ≤ 145 → x ≠ 141 → x ≠ 144 → N x = M x) : tc_B H P n g fr N := by
  unfold tc_B
  rw [h 140 (by decide) (by decide) (by decide) (by decide), h 142 (by decide) (by decide) (by decide) (by decide), h 143 (by decide) (by decide) (by decide) (by decide), h 145 (by decide) (by decide) (by decide) (by decide)]
  exact B
theorem iv_scr_t {x y : Nat} (h : 141 ≤ x ∧ x ≤ 145) : iv_scr x y = true := by
  simp only [iv_scr, Bool.or_eq_true, Bool.and_eq_true, beq_iff_eq, decide_eq_true_eq]
  omega
section TT4
variable {s : Nat → Int} {T : Nat → Nat → Int} {V : ma_V} {M N : gs_M} {n : Nat}
theorem c_g68 (W : ma_W s T V) (C : ma_C s T V M) {K c : Nat} (hK : (K : Int) < T 3 0) (hc : c < 8) (h8 : M 140 8 = iI (c : Int)) (x1 : Int32) : ∃ N, l_X8_gather_68 x1 (iI (K : Int)) gs_FU (iI 0) M = some (iI ((T 1 0).toNat : Nat), N) ∧ iv_co M N ∧ (∀ h : Nat, h < (T 1 0).toNat → N 145 (9 * c + h) = iI (tt_g s T V K h)) ∧ (∀ x, 140 ≤ x → x ≤ 144 → N x = M x) ∧ ∀ y, y < 9 * c → N 145 y = M 145 y := by
  have w := W.2.1
  obtain ⟨f1, f2, -⟩ := W.2.1
  obtain ⟨r, e, N, h1, h2, h3, h4, rfl⟩ := ma_up0 (fun f i (k : gs_M) => l_X8_gather_68 x1 (iI (K : Int)) f i k) (T 1 0).toNat
    (fun i k => iv_co M k ∧ (∀ h, h < i → k 145 (9 * c + h) = iI (tt_g s T V K h)) ∧ (∀ x, 140 ≤ x → x ≤ 144 → k x = M x) ∧ ∀ y, y < 9 * c → k 145 y = M 145 y)
    (fun r => ∃ N, iv_co M N ∧ (∀ h, h < (T 1 0).toNat → N 145 (9 * c + h) = iI (tt_g s T V K h)) ∧ (∀ x, 140 ≤ x → x ≤ 144 → N x = M x) ∧ (∀ y, y < 9 * c → N 145 y = M 145 y) ∧ r = (iI ((T 1 0).toNat : Nat), N)) M (by omega) ⟨iv_co.rf, fun h hh => by omega, fun _ _ _ => rfl, fun _ _ => rfl⟩
    (by
      rintro f i k hi ⟨h1, h2, h3, h4⟩
      left
      have CN := C.co w h1
      obtain ⟨N1, e1, g1⟩ := c_nw W CN (p := K) (h := i) hK (by omega)
      have r8 : k 140 8 = iI (c : Int) := by rw [h3 140 (by decide) (by decide)]; exact h8
      have e5 : ∀ y, gs_wr N1 145 72 (iI ((c : Int) * 9 + i)) y = some (gs_up N1 145 (9 * c + i) y) := fun y => by rw [q_wrn (9 * c + i) (by omega) (by omega) (by decide)]
      have hr : ∀ x, 140 ≤ x → x ≤ 145 → N1 x = k x := fun x hx hx2 => funext fun y => g1 x y (by
        simp only [iv_fin, Bool.or_eq_false_iff, Bool.and_eq_false_iff, beq_eq_false_iff_ne]
        omega)
      refine ⟨gs_up N1 145 (9 * c + i) (iI (10 - ma_now s T V K i)), ?_, (h1.tr g1.co).up _ (iv_scr_t (by omega)), fun h hh => ?_, fun x hx hx2 => by rw [ma_row_ne _ _ _ _ _ (by omega), hr x hx (by omega), h3 x hx hx2], fun y hy => by rw [ma_cell_ne _ _ _ _ _ _ (by omega), hr 145 (by decide) (by decide), h4 y hy]⟩
      · simp only [l_X8_gather_68]
        simp (disch := omega) only [qn0, qn1, qn2, qn3, qn4, qn5, qn6, qn7, qn8, qn9, qn10, qn11, qn12, qn13, qn14, qn15, qn16, qn17, qn18, qn24, qn30, qn31, qn32, qn33, qn36, qn38, qn40, qn41, qn42, qn43, qn45, qn47, qn48, qn49, qn50, qn51, qn52, qn53, qn57, qn58, qn59, qn60, qn61, qn62, qn63, qn91, qn93, qn97, qn99, qn100, qn103, qn104, qn112, qn113, qn115, qn116, qn118, qn119, qn121, qn124, qn173, qn177, qn240, qn255, qn295, qn352, qn353, qn533, qn999, qn1000, qn1023, qn6561, qn10000, qn20787, qn1000000, qn252645135, qn858993459, qn1000000000, qn1431655765, q_s1, q_s2, q_s3, q_s4, q_s5, iI_add, iI_sub, iI_mul, iI_neg, q_lt, q_le, q_eq, qz0, qz1, qz2, qz3, if_pos, if_neg, reduceIte, c_hours CN, e1, r8, e5]
      · by_cases d : h = i
        · subst d
          rw [gs_up_eq]
          rfl
        · rw [ma_cell_ne _ _ _ _ _ _ (by omega), hr 145 (by decide) (by decide)]
          exact h2 h (by omega))
    (by
      rintro f k ⟨h1, h2, h3, h4⟩
      have CN := C.co w h1
      refine ⟨_, ?_, k, h1, h2, h3, h4, rfl⟩
      simp only [l_X8_gather_68]
      simp (disch := omega) only [qn0, qn1, qn2, qn3, qn4, qn5, qn6, qn7, qn8, qn9, qn10, qn11, qn12, qn13, qn14, qn15, qn16, qn17, qn18, qn24, qn30, qn31, qn32, qn33, qn36, qn38, qn40, qn41, qn42, qn43, qn45, qn47, qn48, qn49, qn50, qn51, qn52, qn53, qn57, qn58, qn59, qn60, qn61, qn62, qn63, qn91, qn93, qn97, qn99, qn100, qn103, qn104, qn112, qn113, qn115, qn116, qn118, qn119, qn121, qn124, qn173, qn177, qn240, qn255, qn295, qn352, qn353, qn533, qn999, qn1000, qn1023, qn6561, qn10000, qn20787, qn1000000, qn252645135, qn858993459, qn1000000000, qn1431655765, q_s1, q_s2, q_s3, q_s4, q_s5, iI_add, iI_sub, iI_mul, iI_neg, q_lt, q_le, q_eq, qz0, qz1, qz2, qz3, if_pos, if_neg, reduceIte, c_hours CN])
  exact ⟨N, e, h1, h2, h3, h4⟩
/-- gather -/
theorem c_gat (W : ma_W s T V) (C : ma_C s T V M) (hn : n + 1 = 2 ∨ n + 1 = 3) (h9 : M 140 9 = iI (n : Int)) : ∃ N, f_X8_gather M = some (iI (((n + 1) ^ tt_c (tt_fr s) (T 3 0).toNat : Nat) : Int), N) ∧ iv_co M N ∧ tc_B (T 1 0).toNat (T 3 0).toNat n (tt_g s T V) (tt_fr s) N := by
  have w := W.2.1
  obtain ⟨f1, f2, -⟩ := W.2.1
  obtain ⟨r, e, N, h1, h2, h3, h4, j, rfl⟩ := ma_up0 (fun f i (k : Int32 × gs_M) => l_X8_gather_9 f k.1 i k.2) (T 3 0).toNat
    (fun K k => k.1 = iI (((n + 1) ^ tt_c (tt_fr s) K : Nat) : Int) ∧ iv_co M k.2 ∧ k.2 140 8 = iI ((tt_c (tt_fr s) K : Nat) : Int) ∧ k.2 140 9 = iI (n : Int) ∧ ∀ p, p < K → tt_fr s p = true → k.2 143 (tt_c (tt_fr s) p) = iI (p : Int) ∧ k.2 142 (tt_c (tt_fr s) p) = iI (((n + 1) ^ tt_c (tt_fr s) p : Nat) : Int) ∧ ∀ h : Nat, h < (T 1 0).toNat → k.2 145 (9 * tt_c (tt_fr s) p + h) = iI (tt_g s T V p h))
    (fun r => ∃ N, iv_co M N ∧ N 140 8 = iI ((tt_c (tt_fr s) (T 3 0).toNat : Nat) : Int) ∧ N 140 9 = iI (n : Int) ∧ (∀ p, p < (T 3 0).toNat → tt_fr s p = true → N 143 (tt_c (tt_fr s) p) = iI (p : Int) ∧ N 142 (tt_c (tt_fr s) p) = iI (((n + 1) ^ tt_c (tt_fr s) p : Nat) : Int) ∧ ∀ h : Nat, h < (T 1 0).toNat → N 145 (9 * tt_c (tt_fr s) p + h) = iI (tt_g s T V p h)) ∧ ∃ j, r = (iI (((n + 1) ^ tt_c (tt_fr s) (T 3 0).toNat : Nat) : Int), j, N)) (iI 1, gs_up M 140 8 (iI 0)) (by omega) ⟨rfl, iv_co.rf.up (i := 140) (k := 8) _ rfl, gs_up_eq M 140 8 (iI 0), (ma_cell_ne M 140 8 (iI 0) 140 9 (by decide)).trans h9, fun p hp => by omega⟩
    (by
      rintro f K ⟨x1, k⟩ hK ⟨hx, h1, h2, h3, h4⟩
      simp only at hx h1 h2 h3 h4
      subst hx
      left
      have CN := C.co w h1
      have e2 := c_of5 CN.st (p := K) (by omega)
      have hone := W.1.1 K (by omega)
      unfold ma_one at hone
      have hcK := tt_c_b (tt_fr s) K
      have hpw := q_pw (n + 1) (by omega) (tt_c (tt_fr s) K + 1) (by omega)
      have hpw1 := q_pw (n + 1) (by omega) (tt_c (tt_fr s) K) (by omega)
      rw [Nat.pow_succ] at hpw
      have hcast : (((n + 1) ^ tt_c (tt_fr s) K : Nat) : Int) * ((n : Int) + 1) = (((n + 1) ^ (tt_c (tt_fr s) K + 1) : Nat) : Int) := by
        rw [Nat.pow_succ, Int.natCast_mul]
        rfl
      by_cases c : tt_fr s K = true
      · have c5 : s (6 * K + 5) = 0 := by
          unfold tt_fr at c
          exact of_decide_eq_true c
        have hs : tt_c (tt_fr s) (K + 1) = tt_c (tt_fr s) K + 1 := by
          simp only [tt_c]
          rw [if_pos c]
        have e3 : ∀ y, gs_wr k 143 8 (iI ((tt_c (tt_fr s) K : Nat) : Int)) y = some (gs_up k 143 (tt_c (tt_fr s) K) y) := fun y => by rw [q_wrn (tt_c (tt_fr s) K) rfl (by omega) (by decide)]
        have e4 : ∀ y z, gs_wr (gs_up k 143 (tt_c (tt_fr s) K) y) 142 8 (iI ((tt_c (tt_fr s) K : Nat) : Int)) z = some (gs_up (gs_up k 143 (tt_c (tt_fr s) K) y) 142 (tt_c (tt_fr s) K) z) := fun y z => by rw [q_wrn (tt_c (tt_fr s) K) rfl (by omega) (by decide)]
        have r8 : ∀ y, gs_up k 143 (tt_c (tt_fr s) K) y 140 8 = iI ((tt_c (tt_fr s) K : Nat) : Int) := fun y => by rw [ma_row_ne _ _ _ _ _ (by decide)]; exact h2
        have h5 : iv_co M (gs_up (gs_up k 143 (tt_c (tt_fr s) K) (iI (K : Int))) 142 (tt_c (tt_fr s) K) (iI (((n + 1) ^ tt_c (tt_fr s) K : Nat) : Int))) := (h1.up _ (iv_scr_t (by omega))).up _ (iv_scr_t (by omega))
        obtain ⟨N1, m1, m2, m3, m4, m5⟩ := c_g68 W (C.co w h5) (K := K) (c := tt_c (tt_fr s) K) (by omega) (by omega) (by rw [ma_row_ne _ _ _ _ _ (by decide)]; exact r8 _) (iI (((n + 1) ^ tt_c (tt_fr s) K : Nat) : Int))
        have n8 : N1 140 8 = iI ((tt_c (tt_fr s) K : Nat) : Int) := by rw [m4 140 (by decide) (by decide), ma_row_ne _ _ _ _ _ (by decide)]; exact r8 _
        have n9 : gs_up N1 140 8 (iI (((tt_c (tt_fr s) K : Nat) : Int) + 1)) 140 9 = iI (n : Int) := by
          rw [ma_cell_ne _ _ _ _ _ _ (by decide), m4 140 (by decide) (by decide), ma_row_ne _ _ _ _ _ (by decide), ma_row_ne _ _ _ _ _ (by decide)]
          exact h3
        rw [c5] at e2
        refine ⟨(iI (((n + 1) ^ tt_c (tt_fr s) (K + 1) : Nat) : Int), gs_up N1 140 8 (iI (((tt_c (tt_fr s) K : Nat) : Int) + 1))), ?_, rfl, (h5.tr m2).up (i := 140) (k := 8) _ rfl, ?_, n9, fun p hp hf => ?_⟩
        · rw [hs, ← hcast]
          simp only [l_X8_gather_9]
          have hcmp : ¬ (6561 : Int) < (((n + 1) ^ tt_c (tt_fr s) K : Nat) : Int) * ((n : Int) + 1) := by
            rw [hcast, Nat.pow_succ]
            omega
          have hcmp2 : ¬ iI 6561 < iI ((((n + 1) ^ tt_c (tt_fr s) K : Nat) : Int) * ((n : Int) + 1)) := by
            rw [q_lt (by rw [hcast, Nat.pow_succ]; omega)]
            exact hcmp
          simp (disch := first | exact hcmp2 | omega) only [qn0, qn1, qn2, qn3, qn4, qn5, qn6, qn7, qn8, qn9, qn10, qn11, qn12, qn13, qn14, qn15, qn16, qn17, qn18, qn24, qn30, qn31, qn32, qn33, qn36, qn38, qn40, qn41, qn42, qn43, qn45, qn47, qn48, qn49, qn50, qn51, qn52, qn53, qn57, qn58, qn59, qn60, qn61, qn62, qn63, qn91, qn93, qn97, qn99, qn100, qn103, qn104, qn112, qn113, qn115, qn116, qn118, qn119, qn121, qn124, qn173, qn177, qn240, qn255, qn295, qn352, qn353, qn533, qn999, qn1000, qn1023, qn6561, qn10000, qn20787, qn1000000, qn252645135, qn858993459, qn1000000000, qn1431655765, q_s1, q_s2, q_s3, q_s4, q_s5, iI_add, iI_sub, iI_mul, iI_neg, q_lt, q_le, q_eq, qz0, qz1, qz2, qz3, if_pos, if_neg, reduceIte, c_crowd CN, e2, h3, h2, e3, r8, e4, m1, n8, n9]
        · dsimp only
          rw [gs_up_eq, hs]
          rfl
        · rcases (by omega : p < K ∨ p = K) with d | d
          · have hlt : tt_c (tt_fr s) p < tt_c (tt_fr s) K := tt_c_s hf d
            obtain ⟨k1, k2, k3⟩ := h4 p d hf
            refine ⟨?_, ?_, fun h hh => ?_⟩
            · dsimp only
              rw [ma_row_ne _ _ _ _ _ (by decide), m4 143 (by decide) (by decide), ma_row_ne _ _ _ _ _ (by decide), ma_cell_ne _ _ _ _ _ _ (by omega)]
              exact k1
            · dsimp only
              rw [ma_row_ne _ _ _ _ _ (by decide), m4 142 (by decide) (by decide), ma_cell_ne _ _ _ _ _ _ (by omega), ma_row_ne _ _ _ _ _ (by decide)]
              exact k2
            · dsimp only
              rw [ma_row_ne _ _ _ _ _ (by decide), m5 _ (by omega), ma_row_ne _ _ _ _ _ (by decide), ma_row_ne _ _ _ _ _ (by decide)]
              exact k3 h hh
          · subst d
            refine ⟨?_, ?_, fun h hh => ?_⟩
            · dsimp only
              rw [ma_row_ne _ _ _ _ _ (by decide), m4 143 (by decide) (by decide), ma_row_ne _ _ _ _ _ (by decide), gs_up_eq]
            · dsimp only
              rw [ma_row_ne _ _ _ _ _ (by decide), m4 142 (by decide) (by decide), gs_up_eq]
            · dsimp only
              rw [ma_row_ne _ _ _ _ _ (by decide)]
              exact m3 h hh
      · have c5 : s (6 * K + 5) = 1 := by
          have : ¬ s (6 * K + 5) = 0 := fun h => c (decide_eq_true h)
          omega
        have hs : tt_c (tt_fr s) (K + 1) = tt_c (tt_fr s) K := by
          simp only [tt_c]
          rw [if_neg c]
          rfl
        rw [c5] at e2
        refine ⟨(iI (((n + 1) ^ tt_c (tt_fr s) K : Nat) : Int), k), ?_, by rw [hs], h1, by rw [hs]; exact h2, h3, fun p hp hf => ?_⟩
        · simp only [l_X8_gather_9]
          simp (disch := omega) only [qn0, qn1, qn2, qn3, qn4, qn5, qn6, qn7, qn8, qn9, qn10, qn11, qn12, qn13, qn14, qn15, qn16, qn17, qn18, qn24, qn30, qn31, qn32, qn33, qn36, qn38, qn40, qn41, qn42, qn43, qn45, qn47, qn48, qn49, qn50, qn51, qn52, qn53, qn57, qn58, qn59, qn60, qn61, qn62, qn63, qn91, qn93, qn97, qn99, qn100, qn103, qn104, qn112, qn113, qn115, qn116, qn118, qn119, qn121, qn124, qn173, qn177, qn240, qn255, qn295, qn352, qn353, qn533, qn999, qn1000, qn1023, qn6561, qn10000, qn20787, qn1000000, qn252645135, qn858993459, qn1000000000, qn1431655765, q_s1, q_s2, q_s3, q_s4, q_s5, iI_add, iI_sub, iI_mul, iI_neg, q_lt, q_le, q_eq, qz0, qz1, qz2, qz3, if_pos, if_neg, reduceIte, c_crowd CN, e2]
        · rcases (by omega : p < K ∨ p = K) with d | d
          · exact h4 p d hf
          · subst d
            exact absurd hf c)
    (by
      rintro f ⟨x1, k⟩ ⟨hx, h1, h2, h3, h4⟩
      simp only at hx h1 h2 h3 h4
      subst hx
      have CN := C.co w h1
      refine ⟨_, ?_, k, h1, h2, h3, h4, iI ((T 3 0).toNat : Nat), rfl⟩
      simp only [l_X8_gather_9]
      simp (disch := omega) only [qn0, qn1, qn2, qn3, qn4, qn5, qn6, qn7, qn8, qn9, qn10, qn11, qn12, qn13, qn14, qn15, qn16, qn17, qn18, qn24, qn30, qn31, qn32, qn33, qn36, qn38, qn40, qn41, qn42, qn43, qn45, qn47, qn48, qn49, qn50, qn51, qn52, qn53, qn57, qn58, qn59, qn60, qn61, qn62, qn63, qn91, qn93, qn97, qn99, qn100, qn103, qn104, qn112, qn113, qn115, qn116, qn118, qn119, qn121, qn124, qn173, qn177, qn240, qn255, qn295, qn352, qn353, qn533, qn999, qn1000, qn1023, qn6561, qn10000, qn20787, qn1000000, qn252645135, qn858993459, qn1000000000, qn1431655765, q_s1, q_s2, q_s3, q_s4, q_s5, iI_add, iI_sub, iI_mul, iI_neg, q_lt, q_le, q_eq, qz0, qz1, qz2, qz3, if_pos, if_neg, reduceIte, c_crowd CN])
  refine ⟨N, ?_, h1, h2, h3, fun v hv => ?_⟩
  · have e' : l_X8_gather_9 gs_FU (iI 1) (iI 0) (gs_up M 140 8 (iI 0)) = some (iI (((n + 1) ^ tt_c (tt_fr s) (T 3 0).toNat : Nat) : Int), j, N) := e
    unfold f_X8_gather
    simp (disch := omega) only [qn0, qn1, qn2, qn3, qn4, qn5, qn6, qn7, qn8, qn9, qn10, qn11, qn12, qn13, qn14, qn15, qn16, qn17, qn18, qn24, qn30, qn31, qn32, qn33, qn36, qn38, qn40, qn41, qn42, qn43, qn45, qn47, qn48, qn49, qn50, qn51, qn52, qn53, qn57, qn58, qn59, qn60, qn61, qn62, qn63, qn91, qn93, qn97, qn99, qn100, qn103, qn104, qn112, qn113, qn115, qn116, qn118, qn119, qn121, qn124, qn173, qn177, qn240, qn255, qn295, qn352, qn353, qn533, qn999, qn1000, qn1023, qn6561, qn10000, qn20787, qn1000000, qn252645135, qn858993459, qn1000000000, qn1431655765, q_s1, q_s2, q_s3, q_s4, q_s5, iI_add, iI_sub, iI_mul, iI_neg, q_lt, q_le, q_eq, qz0, qz1, qz2, qz3, if_pos, if_neg, reduceIte, e']
  · obtain ⟨v1, v2, v3⟩ := tt_wl_p (fr := tt_fr s) (T 3 0).toNat hv
    have := h4 _ v1 v2
    rw [v3] at this
    exact this
end TT4
section TT4b
variable {H P n : Nat} {g : Nat → Nat → Int} {fr : Nat → Bool} {M N : gs_M} {x : Nat}
/-- spread -/
theorem c_spr (hq : n + 1 = 2 ∨ n + 1 = 3) (hP : P ≤ 8) (B : tc_B H P n g fr M) (hx : x < 6561) : ∃ N, f_X8_spread M (iI (x : Int)) = some (iI ((tt_ds (n + 1) x (tt_c fr P) : Nat) : Int), N) ∧ (∀ y, y ≠ 144 → N y = M y) ∧ ∀ i, i < tt_c fr P → N 144 i = iI ((tt_dg (n + 1) i x : Nat) : Int) := by
  have hF := tt_c_b fr P
  have b1 := B.1
  have b2 := B.2.1
  obtain ⟨r, e, N, h1, h2, j1, j2, rfl⟩ := ma_up0 (fun f i (k : Int32 × Int32 × gs_M) => l_X8_spread_7 (iI (x : Int)) f k.1 k.2.1 i k.2.2) (tt_c fr P)
    (fun i k => k.1 = iI ((x / (n + 1) ^ i : Nat) : Int) ∧ k.2.1 = iI ((tt_ds (n + 1) x i : Nat) : Int) ∧ (∀ y, y ≠ 144 → k.2.2 y = M y) ∧ ∀ j, j < i → k.2.2 144 j = iI ((tt_dg (n + 1) j x : Nat) : Int))
    (fun r => ∃ N, (∀ y, y ≠ 144 → N y = M y) ∧ (∀ i, i < tt_c fr P → N 144 i = iI ((tt_dg (n + 1) i x : Nat) : Int)) ∧ ∃ j1 j2, r = (j1, iI ((tt_ds (n + 1) x (tt_c fr P) : Nat) : Int), j2, N)) (iI (x : Int), iI 0, M) (by omega) ⟨by rw [Nat.pow_zero, Nat.div_one], rfl, fun _ _ => rfl, fun j hj => by omega⟩
    (by
      rintro f i ⟨k1, k2, k⟩ hi ⟨hk1, hk2, h1, h2⟩
      simp only at hk1 hk2 h1 h2
      subst hk1 hk2
      left
      have hle : x / (n + 1) ^ i ≤ x := Nat.div_le_self _ _
      have hdg := tt_dgb (i := i) (x := x) hq
      have hcm := tt_rd (q := n + 1) (a := x / (n + 1) ^ i) hq (by omega)
      have r8 : k 140 8 = iI ((tt_c fr P : Nat) : Int) := by rw [h1 140 (by decide)]; exact b1
      have r9 : k 140 9 = iI (n : Int) := by rw [h1 140 (by decide)]; exact b2
      have e1 : gs_rm9 (iI ((x / (n + 1) ^ i : Nat) : Int)) (iI ((n : Int) + 1)) = some (iI ((x / (n + 1) ^ i % (n + 1) : Nat) : Int)) := hcm.1
      have e2 : gs_dv (iI ((x / (n + 1) ^ i : Nat) : Int)) (iI ((n : Int) + 1)) = some (iI ((x / (n + 1) ^ i / (n + 1) : Nat) : Int)) := hcm.2
      have e5 : ∀ y, gs_wr k 144 8 (iI (i : Int)) y = some (gs_up k 144 i y) := fun y => by rw [q_wrn i rfl (by omega) (by decide)]
      have r9' : ∀ y, gs_up k 144 i y 140 9 = iI (n : Int) := fun y => by rw [ma_row_ne _ _ _ _ _ (by decide)]; exact r9
      have e6 : gs_rd (gs_up k 144 i (iI ((x / (n + 1) ^ i % (n + 1) : Nat) : Int))) 144 8 (iI (i : Int)) = some (iI ((x / (n + 1) ^ i % (n + 1) : Nat) : Int)) := by rw [q_rdn i rfl (by omega) (by decide), gs_up_eq]
      refine ⟨(iI ((x / (n + 1) ^ i / (n + 1) : Nat) : Int), iI (((tt_ds (n + 1) x i : Nat) : Int) + ((x / (n + 1) ^ i % (n + 1) : Nat) : Int)), gs_up k 144 i (iI ((x / (n + 1) ^ i % (n + 1) : Nat) : Int))), ?_, ?_, rfl, fun y hy => (ma_row_ne _ _ _ _ _ hy).trans (h1 y hy), fun j hj => ?_⟩
      · simp only [l_X8_spread_7]
        simp (disch := omega) only [qn0, qn1, qn2, qn3, qn4, qn5, qn6, qn7, qn8, qn9, qn10, qn11, qn12, qn13, qn14, qn15, qn16, qn17, qn18, qn24, qn30, qn31, qn32, qn33, qn36, qn38, qn40, qn41, qn42, qn43, qn45, qn47, qn48, qn49, qn50, qn51, qn52, qn53, qn57, qn58, qn59, qn60, qn61, qn62, qn63, qn91, qn93, qn97, qn99, qn100, qn103, qn104, qn112, qn113, qn115, qn116, qn118, qn119, qn121, qn124, qn173, qn177, qn240, qn255, qn295, qn352, qn353, qn533, qn999, qn1000, qn1023, qn6561, qn10000, qn20787, qn1000000, qn252645135, qn858993459, qn1000000000, qn1431655765, q_s1, q_s2, q_s3, q_s4, q_s5, iI_add, iI_sub, iI_mul, iI_neg, q_lt, q_le, q_eq, qz0, qz1, qz2, qz3, if_pos, if_neg, reduceIte, r8, r9, e1, e5, r9', e2, e6]
      · rw [tt_dd]
      · dsimp only
        by_cases d : j = i
        · subst d
          rw [gs_up_eq]
          rfl
        · rw [ma_cell_ne _ _ _ _ _ _ (by omega)]
          exact h2 j (by omega))
    (by
      rintro f ⟨k1, k2, k⟩ ⟨hk1, hk2, h1, h2⟩
      simp only at hk1 hk2 h1 h2
      subst hk1 hk2
      have r8 : k 140 8 = iI ((tt_c fr P : Nat) : Int) := by rw [h1 140 (by decide)]; exact b1
      refine ⟨_, ?_, k, h1, h2, iI ((x / (n + 1) ^ tt_c fr P : Nat) : Int), iI ((tt_c fr P : Nat) : Int), rfl⟩
      simp only [l_X8_spread_7]
      simp (disch := omega) only [qn0, qn1, qn2, qn3, qn4, qn5, qn6, qn7, qn8, qn9, qn10, qn11, qn12, qn13, qn14, qn15, qn16, qn17, qn18, qn24, qn30, qn31, qn32, qn33, qn36, qn38, qn40, qn41, qn42, qn43, qn45, qn47, qn48, qn49, qn50, qn51, qn52, qn53, qn57, qn58, qn59, qn60, qn61, qn62, qn63, qn91, qn93, qn97, qn99, qn100, qn103, qn104, qn112, qn113, qn115, qn116, qn118, qn119, qn121, qn124, qn173, qn177, qn240, qn255, qn295, qn352, qn353, qn533, qn999, qn1000, qn1023, qn6561, qn10000, qn20787, qn1000000, qn252645135, qn858993459, qn1000000000, qn1431655765, q_s1, q_s2, q_s3, q_s4, q_s5, iI_add, iI_sub, iI_mul, iI_neg, q_lt, q_le, q_eq, qz0, qz1, qz2, qz3, if_pos, if_neg, reduceIte, r8])
  refine ⟨N, ?_, h1, h2⟩
  have e' : l_X8_spread_7 (iI (x : Int)) gs_FU (iI (x : Int)) (iI 0) (iI 0) M = some (j1, iI ((tt_ds (n + 1) x (tt_c fr P) : Nat) : Int), j2, N) := e
  unfold f_X8_spread
  simp (disch := omega) only [qn0, qn1, qn2, qn3, qn4, qn5, qn6, qn7, qn8, qn9, qn10, qn11, qn12, qn13, qn14, qn15, qn16, qn17, qn18, qn24, qn30, qn31, qn32, qn33, qn36, qn38, qn40, qn41, qn42, qn43, qn45, qn47, qn48, qn49, qn50, qn51, qn52, qn53, qn57, qn58, qn59, qn60, qn61, qn62, qn63, qn91, qn93, qn97, qn99, qn100, qn103, qn104, qn112, qn113, qn115, qn116, qn118, qn119, qn121, qn124, qn173, qn177, qn240, qn255, qn295, qn352, qn353, qn533, qn999, qn1000, qn1023, qn6561, qn10000, qn20787, qn1000000, qn252645135, qn858993459, qn1000000000, qn1431655765, q_s1, q_s2, q_s3, q_s4, q_s5, iI_add, iI_sub, iI_mul, iI_neg, q_lt, q_le, q_eq, qz0, qz1, qz2, qz3, if_pos, if_neg, reduceIte, e']
def tt_bt (M : gs_M) (y : Nat) : Int := (M 141 y).toInt
theorem tt_bt_c (M : gs_M) (y : Nat) : M 141 y = iI (tt_bt M y) := iI_of _
theorem tt_bt_b (M : gs_M) (y : Nat) : -2147483648 ≤ tt_bt M y ∧ tt_bt M y < 2147483648 := by
  have h1 := Int32.le_toInt (M 141 y)
  have h2 := Int32.toInt_lt (M 141 y)
  unfold tt_bt
  omega
/-- gainBy behind spread -/
theorem c_gby (hq : n + 1 = 2 ∨ n + 1 = 3) (hH : H ≤ 9) (hP : P ≤ 8) (B : tc_B H P n g fr M) (hx : x < (n + 1) ^ tt_c fr P) (h4 : ∀ i, i < tt_c fr P → M 144 i = iI ((tt_dg (n + 1) i x : Nat) : Int)) {v h0 : Nat} (hv : v < tt_c fr P) (hh : h0 < H) : f_X8_gainBy M (iI (x : Int)) (iI (v : Int)) (iI (h0 : Int)) = some (iI (tt_gb P n g fr (tt_bt M) x h0 v)) := by
  have hF := tt_c_b fr P
  have hpw := q_pw (n + 1) (by omega) (tt_c fr P) (by omega)
  obtain ⟨b1, b2, b3⟩ := B
  obtain ⟨b4, b5, b6⟩ := b3 v hv
  have hdg := tt_dgb (i := v) (x := x) hq
  have e1 : gs_rd M 144 8 (iI (v : Int)) = some (iI ((tt_dg (n + 1) v x : Nat) : Int)) := by rw [q_rdn v rfl (by omega) (by decide), h4 v hv]
  have e2 : gs_rd M 142 8 (iI (v : Int)) = some (iI (((n + 1) ^ v : Nat) : Int)) := by rw [q_rdn v rfl (by omega) (by decide), b5]
  have e4 : gs_rd M 145 72 (iI ((v : Int) * 9 + h0)) = some (iI (g (tt_wl fr v P) h0)) := by rw [q_rdn (9 * v + h0) (by omega) (by omega) (by decide), b6 h0 hh]
  have hb := tt_bt_b M (x + (n + 1) ^ v)
  unfold tt_gb
  by_cases c : n ≤ tt_dg (n + 1) v x
  · rw [if_pos c]
    unfold f_X8_gainBy
    simp (disch := omega) only [qn0, qn1, qn2, qn3, qn4, qn5, qn6, qn7, qn8, qn9, qn10, qn11, qn12, qn13, qn14, qn15, qn16, qn17, qn18, qn24, qn30, qn31, qn32, qn33, qn36, qn38, qn40, qn41, qn42, qn43, qn45, qn47, qn48, qn49, qn50, qn51, qn52, qn53, qn57, qn58, qn59, qn60, qn61, qn62, qn63, qn91, qn93, qn97, qn99, qn100, qn103, qn104, qn112, qn113, qn115, qn116, qn118, qn119, qn121, qn124, qn173, qn177, qn240, qn255, qn295, qn352, qn353, qn533, qn999, qn1000, qn1023, qn6561, qn10000, qn20787, qn1000000, qn252645135, qn858993459, qn1000000000, qn1431655765, q_s1, q_s2, q_s3, q_s4, q_s5, iI_add, iI_sub, iI_mul, iI_neg, q_lt, q_le, q_eq, qz0, qz1, qz2, qz3, if_pos, if_neg, reduceIte, e1, b2]
  · rw [if_neg c]
    have hy := tt_plt (i := v) hq (by omega) hv hx
    have e3 : gs_rd M 141 6561 (iI ((x : Int) + (((n + 1) ^ v : Nat) : Int))) = some (iI (tt_bt M (x + (n + 1) ^ v))) := by rw [q_rdn (x + (n + 1) ^ v) (by omega) (by omega) (by decide), tt_bt_c M]
    by_cases c2 : tt_bt M (x + (n + 1) ^ v) = -1
    · rw [if_pos c2]
      rw [c2] at e3
      unfold f_X8_gainBy
      simp (disch := omega) only [qn0, qn1, qn2, qn3, qn4, qn5, qn6, qn7, qn8, qn9, qn10, qn11, qn12, qn13, qn14, qn15, qn16, qn17, qn18, qn24, qn30, qn31, qn32, qn33, qn36, qn38, qn40, qn41, qn42, qn43, qn45, qn47, qn48, qn49, qn50, qn51, qn52, qn53, qn57, qn58, qn59, qn60, qn61, qn62, qn63, qn91, qn93, qn97, qn99, qn100, qn103, qn104, qn112, qn113, qn115, qn116, qn118, qn119, qn121, qn124, qn173, qn177, qn240, qn255, qn295, qn352, qn353, qn533, qn999, qn1000, qn1023, qn6561, qn10000, qn20787, qn1000000, qn252645135, qn858993459, qn1000000000, qn1431655765, q_s1, q_s2, q_s3, q_s4, q_s5, iI_add, iI_sub, iI_mul, iI_neg, q_lt, q_le, q_eq, qz0, qz1, qz2, qz3, if_pos, if_neg, reduceIte, e1, b2, e2, e3]
    · rw [if_neg c2]
      unfold f_X8_gainBy
      simp (disch := omega) only [qn0, qn1, qn2, qn3, qn4, qn5, qn6, qn7, qn8, qn9, qn10, qn11, qn12, qn13, qn14, qn15, qn16, qn17, qn18, qn24, qn30, qn31, qn32, qn33, qn36, qn38, qn40, qn41, qn42, qn43, qn45, qn47, qn48, qn49, qn50, qn51, qn52, qn53, qn57, qn58, qn59, qn60, qn61, qn62, qn63, qn91, qn93, qn97, qn99, qn100, qn103, qn104, qn112, qn113, qn115, qn116, qn118, qn119, qn121, qn124, qn173, qn177, qn240, qn255, qn295, qn352, qn353, qn533, qn999, qn1000, qn1023, qn6561, qn10000, qn20787, qn1000000, qn252645135, qn858993459, qn1000000000, qn1431655765, q_s1, q_s2, q_s3, q_s4, q_s5, iI_add, iI_sub, iI_mul, iI_neg, q_lt, q_le, q_eq, qz0, qz1, qz2, qz3, if_pos, if_neg, reduceIte, e1, b2, e2, e3, e4]
theorem tt_gb_b {b : Nat → Int} (hq : n + 1 = 2 ∨ n + 1 = 3) (hg : ∀ p h, 0 ≤ g p h ∧ g p h ≤ 10) (hx : x < (n + 1) ^ tt_c fr P) (hb : ∀ y, x < y → y < (n + 1) ^ tt_c fr P → tt_sp H P n g fr y (b y)) {v : Nat} (hv : v < tt_c fr P) (h0 : Nat) : -1 ≤ tt_gb P n g fr b x h0 v ∧ tt_gb P n g fr b x h0 v ≤ 100 := by
  unfold tt_gb
  by_cases c : n ≤ tt_dg (n + 1) v x
  · rw [if_pos c]
    omega
  · rw [if_neg c]
    have hy := tt_plt (i := v) hq (by omega) hv hx
    have hp : 0 < (n + 1) ^ v := Nat.pow_pos (by omega)
    obtain ⟨s1, s2, -⟩ := hb _ (by omega) hy
    have := hg (tt_wl fr v P) h0
    split
    · omega
    · omega
end TT4b
