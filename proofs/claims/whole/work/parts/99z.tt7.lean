/-! TIMETABLES: the model's answers, and both -/
def tt_fx (d : Nat → Nat) (i x : Nat) : Nat → Int := fun j => if j < i then (d j : Int) else if j = i then (x : Int) else -1
def tt_f0 (d : Nat → Nat) (i : Nat) : Nat → Int := fun j => if j < i then (d j : Int) else -1
section TT7
variable {H P n : Nat} {g : Nat → Nat → Int} {fr : Nat → Bool} {fx : Nat → Int} {v : Int}
theorem tt_okf (a : Nat → Nat) : tt_ok H n fr fx P (2 ^ H - 1) a ↔ tt_of H P n fr a ∧ ∀ h, h < H → fx h = -1 ∨ fx h = (a h : Int) := by
  have hb : ∀ h, h < H → (2 ^ H - 1).testBit h = true := fun h hh => by rw [Nat.testBit_two_pow_sub_one, decide_eq_true hh]
  have hc : ∀ p, tt_c (fun h => (2 ^ H - 1).testBit h && decide (a h = p)) H = tt_c (fun h => decide (a h = p)) H := fun p => tt_c_c (fun h hh => by rw [hb h hh, Bool.true_and])
  constructor
  · rintro ⟨h1, h2⟩
    refine ⟨⟨fun h hh => ?_, fun p hp => ?_⟩, fun h hh => (h1 h hh (hb h hh)).2.2⟩
    · obtain ⟨k1, k2, -⟩ := h1 h hh (hb h hh)
      exact ⟨k1, k2⟩
    · rw [← hc]
      exact h2 p hp
  · rintro ⟨⟨h1, h2⟩, h3⟩
    refine ⟨fun h hh _ => ⟨(h1 h hh).1, (h1 h hh).2, h3 h hh⟩, fun p hp => ?_⟩
    rw [hc]
    exact h2 p hp
theorem tt_vlf (a : Nat → Nat) : tt_vl H g (2 ^ H - 1) a = tt_tv H g a := by
  unfold tt_vl tt_tv
  refine ma_sm_c (fun h hh => ?_)
  rw [Nat.testBit_two_pow_sub_one, decide_eq_true hh, if_pos rfl]
theorem tt_mxm (hg : ∀ p h, 0 ≤ g p h ∧ g p h ≤ 10) (hfx : ∀ h, h < H → fx h = -1) : tt_mx H P n g fr (tt_st H n g fr fx P (2 ^ H - 1)) := by
  have hp := Nat.two_pow_pos H
  obtain ⟨h1, h2, -⟩ := tt_tbs (H := H) (n := n) (fr := fr) (fx := fx) (fun p h => (hg p h).1) P (2 ^ H - 1) (by omega)
  refine ⟨fun h0 => ?_, fun a ha => ?_⟩
  · obtain ⟨a, a1, a2⟩ := h1 h0
    exact ⟨a, ((tt_okf a).1 a1).1, by rw [← tt_vlf]; exact a2⟩
  · rw [← tt_vlf]
    exact h2 a ((tt_okf a).2 ⟨ha, fun h hh => Or.inl (hfx h hh)⟩)
theorem tt_vex (hg : ∀ p h, 0 ≤ g p h ∧ g p h ≤ 10) (hm : tt_mx H P n g fr v) (h0 : 0 ≤ v) (d : Nat → Nat) {i : Nat} (hi : i < H) (x : Nat) : tt_st H n g fr (tt_fx d i x) P (2 ^ H - 1) = v ↔ tt_ex H P n g fr v d i x := by
  have hp := Nat.two_pow_pos H
  obtain ⟨h1, h2, -⟩ := tt_tbs (H := H) (n := n) (fr := fr) (fx := tt_fx d i x) (fun p h => (hg p h).1) P (2 ^ H - 1) (by omega)
  constructor
  · intro e
    obtain ⟨a, a1, a2⟩ := h1 (by omega)
    obtain ⟨a3, a4⟩ := (tt_okf a).1 a1
    refine ⟨a, a3, fun j hj => ?_, ?_, by rw [← tt_vlf, a2, e]⟩
    · have := a4 j (by omega)
      unfold tt_fx at this
      rw [if_pos hj] at this
      omega
    · have := a4 i hi
      unfold tt_fx at this
      rw [if_neg (by omega), if_pos rfl] at this
      omega
  · rintro ⟨a, a1, a2, a3, a4⟩
    have k1 := h2 a ((tt_okf a).2 ⟨a1, fun h hh => by
      unfold tt_fx
      rcases (by omega : h < i ∨ h = i ∨ i < h) with c | c | c
      · rw [if_pos c, a2 h c]
        exact Or.inr rfl
      · subst c
        rw [if_neg (by omega), if_pos rfl, a3]
        exact Or.inr rfl
      · rw [if_neg (by omega), if_neg (by omega)]
        exact Or.inl rfl⟩)
    rw [tt_vlf, a4] at k1
    obtain ⟨b, b1, b2⟩ := h1 (by omega)
    have k2 := hm.2 b ((tt_okf b).1 b1).1
    rw [tt_vlf] at b2
    omega
theorem tm_B.ux {d : Nat → Nat} {i x y : Nat} {M : gs_M} (B : tm_B H P g fr (tt_fx d i x) M) (hy : y ≤ 100) : tm_B H P g fr (tt_fx d i y) (gs_up M 168 i (iI (y : Int))) := by
  obtain ⟨b1, b2, b3, b4, b5⟩ := B
  refine ⟨by rw [ma_row_ne _ _ _ _ _ (by decide)]; exact b1, by rw [ma_row_ne _ _ _ _ _ (by decide)]; exact b2, fun p hp => by rw [ma_row_ne _ _ _ _ _ (by decide)]; exact b3 p hp, fun p h hp hh => by rw [ma_row_ne _ _ _ _ _ (by decide)]; exact b4 p h hp hh, fun h hh => ?_⟩
  by_cases c : h = i
  · subst c
    rw [gs_up_eq]
    unfold tt_fx
    rw [if_neg (by omega), if_pos rfl]
    exact ⟨rfl, by omega, by omega⟩
  · have e : tt_fx d i y h = tt_fx d i x h := by
      unfold tt_fx
      rw [if_neg c, if_neg c]
    rw [ma_cell_ne _ _ _ _ _ _ (by omega), e]
    exact b5 h hh
theorem m_159 {M : gs_M} (hH : H ≤ 9) (hP : P ≤ 8) (hn : n ≤ 9) (hg : ∀ p h, 0 ≤ g p h ∧ g p h ≤ 10) (hm : tt_mx H P n g fr v) (h0 : 0 ≤ v ∧ v ≤ 90) {d : Nat → Nat} {i : Nat} (hi : i < H) (hd : d i < 8) (h1 : tt_ex H P n g fr v d i (d i)) (h2 : ∀ y, y < d i → ¬ tt_ex H P n g fr v d i y) (x2 x4 : Int32) : ∀ (e x f : Nat) (k : gs_M), x + e = d i → tm_B H P g fr (tt_fx d i x) k → iv_co M k → e < f → ∃ N, l_X12_timetable_159 (iI (n : Int)) x2 (iI v) x4 (iI (i : Int)) f k = some N ∧ tm_B H P g fr (tt_fx d i (d i)) N ∧ iv_co M N := by
  have hp := Nat.two_pow_pos H
  intro e
  induction e with
  | zero =>
    intro x f k hx B hco hf
    obtain ⟨f, rfl⟩ : ∃ m, f = m + 1 := ⟨f - 1, by omega⟩
    have hx' : x = d i := by omega
    subst hx'
    obtain ⟨N, e1, hN⟩ := mt_mb hH hP hn hg B
    rw [(tt_vex hg hm h0.1 d hi (d i)).2 h1] at e1
    refine ⟨N, ?_, B.fz hN, hco.tr (fun a b e => by rw [hN a (by rintro rfl; exact absurd e (by simp [iv_scr])) (by rintro rfl; exact absurd e (by simp [iv_scr]))])⟩
    rw [l_X12_timetable_159]
    simp (disch := omega) only [qn0, qn1, qn2, qn3, qn4, qn5, qn6, qn7, qn8, qn9, qn10, qn11, qn12, qn13, qn14, qn15, qn16, qn17, qn18, qn24, qn30, qn31, qn32, qn33, qn36, qn38, qn40, qn41, qn42, qn43, qn45, qn47, qn48, qn49, qn50, qn51, qn52, qn53, qn57, qn58, qn59, qn60, qn61, qn62, qn63, qn91, qn93, qn97, qn99, qn100, qn103, qn104, qn112, qn113, qn115, qn116, qn118, qn119, qn121, qn124, qn173, qn177, qn240, qn255, qn295, qn352, qn353, qn533, qn999, qn1000, qn1023, qn6561, qn10000, qn20787, qn1000000, qn252645135, qn858993459, qn1000000000, qn1431655765, q_s1, q_s2, q_s3, q_s4, q_s5, iI_add, iI_sub, iI_mul, iI_neg, q_lt, q_le, q_eq, qz0, qz1, qz2, qz3, if_pos, if_neg, reduceIte, e1]
  | succ e ih =>
    intro x f k hx B hco hf
    obtain ⟨f, rfl⟩ : ∃ m, f = m + 1 := ⟨f - 1, by omega⟩
    obtain ⟨N, e1, hN⟩ := mt_mb hH hP hn hg B
    have hne : tt_st H n g fr (tt_fx d i x) P (2 ^ H - 1) ≠ v := fun hh => h2 x (by omega) ((tt_vex hg hm h0.1 d hi x).1 hh)
    have hb := tt_st_b (n := n) (fr := fr) (fx := tt_fx d i x) hH hg P (S := 2 ^ H - 1) (by omega)
    have BN := B.fz hN
    have e2 : gs_rd N 168 9 (iI (i : Int)) = some (iI (x : Int)) := by
      rw [q_rdn i rfl (by omega) (by decide), (BN.2.2.2.2 i hi).1]
      unfold tt_fx
      rw [if_neg (by omega), if_pos rfl]
    have e3 : gs_wr N 168 9 (iI (i : Int)) (iI ((x : Int) + 1)) = some (gs_up N 168 i (iI ((x : Int) + 1))) := by rw [q_wrn i rfl (by omega) (by decide)]
    have hco2 : iv_co M N := hco.tr (fun a b e => by rw [hN a (by rintro rfl; exact absurd e (by simp [iv_scr])) (by rintro rfl; exact absurd e (by simp [iv_scr]))])
    have hco3 : iv_co M (gs_up N 168 i (iI ((x : Int) + 1))) := hco2.up _ (by simp [iv_scr])
    obtain ⟨N2, k1, k2⟩ := ih (x + 1) f (gs_up N 168 i (iI ((x : Int) + 1))) (by omega) (BN.ux (y := x + 1) (by omega)) hco3 (by omega)
    refine ⟨N2, ?_, k2⟩
    rw [l_X12_timetable_159]
    simp (disch := omega) only [qn0, qn1, qn2, qn3, qn4, qn5, qn6, qn7, qn8, qn9, qn10, qn11, qn12, qn13, qn14, qn15, qn16, qn17, qn18, qn24, qn30, qn31, qn32, qn33, qn36, qn38, qn40, qn41, qn42, qn43, qn45, qn47, qn48, qn49, qn50, qn51, qn52, qn53, qn57, qn58, qn59, qn60, qn61, qn62, qn63, qn91, qn93, qn97, qn99, qn100, qn103, qn104, qn112, qn113, qn115, qn116, qn118, qn119, qn121, qn124, qn173, qn177, qn240, qn255, qn295, qn352, qn353, qn533, qn999, qn1000, qn1023, qn6561, qn10000, qn20787, qn1000000, qn252645135, qn858993459, qn1000000000, qn1431655765, q_s1, q_s2, q_s3, q_s4, q_s5, iI_add, iI_sub, iI_mul, iI_neg, q_lt, q_le, q_eq, qz0, qz1, qz2, qz3, if_pos, if_neg, reduceIte, e1, e2, e3, k1]
theorem m_140 {M : gs_M} (hH : H ≤ 9) (hP : P ≤ 8) (hn : n ≤ 9) (hg : ∀ p h, 0 ≤ g p h ∧ g p h ≤ 10) (hm : tt_mx H P n g fr v) (h0 : 0 ≤ v ∧ v ≤ 90) {d : Nat → Nat} (hd : ∀ j, j < H → d j < P) (hl : ∀ h, h < H → tt_ex H P n g fr v d h (d h) ∧ ∀ y, y < d h → ¬ tt_ex H P n g fr v d h y) (B : tm_B H P g fr (tt_f0 d 0) M) (x2 : Int32) : ∃ j N, l_X12_timetable_140 (iI (n : Int)) x2 (iI v) gs_FU (iI 0) (iI 0) M = some (iI (tt_dn d H), j, N) ∧ iv_co M N := by
  obtain ⟨r, e, j, N, rfl, h1⟩ := ma_up0 (fun f i (q : Int32 × gs_M) => l_X12_timetable_140 (iI (n : Int)) x2 (iI v) f q.1 i q.2) H
    (fun i q => q.1 = iI (tt_dn d i) ∧ tm_B H P g fr (tt_f0 d i) q.2 ∧ iv_co M q.2)
    (fun r => ∃ j N, r = (iI (tt_dn d H), j, N) ∧ iv_co M N) (iI 0, M) (by omega) ⟨rfl, B, iv_co.rf⟩
    (by
      rintro f i ⟨q1, k⟩ hi ⟨hq1, Bk, hco⟩
      simp only at hq1 Bk hco
      subst hq1
      left
      have e0 : gs_rd k 152 3 (iI 0) = some (iI (H : Int)) := by rw [q_rdn (z := 0) 0 rfl (by decide) (by decide), Bk.1]
      have e1 : gs_wr k 168 9 (iI (i : Int)) (iI 0) = some (gs_up k 168 i (iI 0)) := by rw [q_wrn i rfl (by omega) (by decide)]
      have Bk0 : tm_B H P g fr (tt_fx d i 0) (gs_up k 168 i (iI 0)) := by
        obtain ⟨b1, b2, b3, b4, b5⟩ := Bk
        refine ⟨by rw [ma_row_ne _ _ _ _ _ (by decide)]; exact b1, by rw [ma_row_ne _ _ _ _ _ (by decide)]; exact b2, fun p hp => by rw [ma_row_ne _ _ _ _ _ (by decide)]; exact b3 p hp, fun p h hp hh => by rw [ma_row_ne _ _ _ _ _ (by decide)]; exact b4 p h hp hh, fun h hh => ?_⟩
        by_cases c : h = i
        · subst c
          rw [gs_up_eq]
          unfold tt_fx
          rw [if_neg (by omega), if_pos rfl]
          exact ⟨rfl, by decide, by decide⟩
        · have e : tt_fx d i 0 h = tt_f0 d i h := by
            unfold tt_fx tt_f0
            rw [if_neg c]
          rw [ma_cell_ne _ _ _ _ _ _ (by omega), e]
          exact b5 h hh
      have hdi := hd i hi
      have hco1 : iv_co M (gs_up k 168 i (iI 0)) := hco.up _ (by simp [iv_scr])
      obtain ⟨N, k1, k2, k3⟩ := m_159 (M := M) hH hP hn hg hm h0 hi (by omega) (hl i hi).1 (hl i hi).2 x2 (iI (tt_dn d i)) (d i) 0 gs_FU (gs_up k 168 i (iI 0)) (by omega) Bk0 hco1 (by show d i < 30000; omega)
      have efx : tt_fx d i (d i) = tt_f0 d (i + 1) := funext fun j => by
        unfold tt_fx tt_f0
        rcases (by omega : j < i ∨ j = i ∨ i < j) with c | c | c
        · rw [if_pos c, if_pos (by omega)]
        · subst c
          rw [if_neg (by omega), if_pos rfl, if_pos (by omega)]
        · rw [if_neg (by omega), if_neg (by omega), if_neg (by omega)]
      have e5 : gs_rd N 168 9 (iI (i : Int)) = some (iI (d i : Nat)) := by
        rw [q_rdn i rfl (by omega) (by decide), (k2.2.2.2.2 i hi).1]
        unfold tt_fx
        rw [if_neg (by omega), if_pos rfl]
      rw [efx] at k2
      refine ⟨(iI (tt_dn d (i + 1)), N), ?_, rfl, k2, k3⟩
      have ed : tt_dn d (i + 1) = 10 * tt_dn d i + ((d i : Nat) : Int) := by
        show tt_dn d i * 10 + ((d i : Nat) : Int) = _
        omega
      rw [ed]
      simp only [l_X12_timetable_140]
      simp (disch := omega) only [qn0, qn1, qn2, qn3, qn4, qn5, qn6, qn7, qn8, qn9, qn10, qn11, qn12, qn13, qn14, qn15, qn16, qn17, qn18, qn24, qn30, qn31, qn32, qn33, qn36, qn38, qn40, qn41, qn42, qn43, qn45, qn47, qn48, qn49, qn50, qn51, qn52, qn53, qn57, qn58, qn59, qn60, qn61, qn62, qn63, qn91, qn93, qn97, qn99, qn100, qn103, qn104, qn112, qn113, qn115, qn116, qn118, qn119, qn121, qn124, qn173, qn177, qn240, qn255, qn295, qn352, qn353, qn533, qn999, qn1000, qn1023, qn6561, qn10000, qn20787, qn1000000, qn252645135, qn858993459, qn1000000000, qn1431655765, q_s1, q_s2, q_s3, q_s4, q_s5, iI_add, iI_sub, iI_mul, iI_neg, q_lt, q_le, q_eq, qz0, qz1, qz2, qz3, if_pos, if_neg, reduceIte, e0, e1, k1, e5])
    (by
      rintro f ⟨q1, k⟩ ⟨hq1, Bk, hco⟩
      simp only at hq1 Bk hco
      subst hq1
      have e0 : gs_rd k 152 3 (iI 0) = some (iI (H : Int)) := by rw [q_rdn (z := 0) 0 rfl (by decide) (by decide), Bk.1]
      refine ⟨(iI (tt_dn d H), iI (H : Int), k), ?_, iI (H : Int), k, rfl, hco⟩
      simp only [l_X12_timetable_140]
      simp (disch := omega) only [qn0, qn1, qn2, qn3, qn4, qn5, qn6, qn7, qn8, qn9, qn10, qn11, qn12, qn13, qn14, qn15, qn16, qn17, qn18, qn24, qn30, qn31, qn32, qn33, qn36, qn38, qn40, qn41, qn42, qn43, qn45, qn47, qn48, qn49, qn50, qn51, qn52, qn53, qn57, qn58, qn59, qn60, qn61, qn62, qn63, qn91, qn93, qn97, qn99, qn100, qn103, qn104, qn112, qn113, qn115, qn116, qn118, qn119, qn121, qn124, qn173, qn177, qn240, qn255, qn295, qn352, qn353, qn533, qn999, qn1000, qn1023, qn6561, qn10000, qn20787, qn1000000, qn252645135, qn858993459, qn1000000000, qn1431655765, q_s1, q_s2, q_s3, q_s4, q_s5, iI_add, iI_sub, iI_mul, iI_neg, q_lt, q_le, q_eq, qz0, qz1, qz2, qz3, if_pos, if_neg, reduceIte, e0])
  exact ⟨j, N, e, h1⟩
theorem m_96 (x1 x2 : Int32) (M : gs_M) : ∃ j N, l_X12_timetable_96 x1 x2 gs_FU (iI 0) M = some (j, N) ∧ (∀ x, x ≠ 168 → N x = M x) ∧ ∀ h, h < 9 → N 168 h = iI (-1) := by
  obtain ⟨r, e, N, h1, h2, j, rfl⟩ := ma_up0 (fun f i (k : gs_M) => l_X12_timetable_96 x1 x2 f i k) 9
    (fun J k => (∀ x, x ≠ 168 → k x = M x) ∧ ∀ h, h < J → k 168 h = iI (-1))
    (fun r => ∃ N, (∀ x, x ≠ 168 → N x = M x) ∧ (∀ h, h < 9 → N 168 h = iI (-1)) ∧ ∃ j, r = (j, N)) M (by decide) ⟨fun _ _ => rfl, fun S hS => by omega⟩
    (by
      rintro f J k hJ ⟨h1, h2⟩
      left
      have e5 : ∀ y, gs_wr k 168 9 (iI (J : Int)) y = some (gs_up k 168 J y) := fun y => by rw [q_wrn J rfl (by omega) (by decide)]
      refine ⟨gs_up k 168 J (iI (-1)), ?_, fun x hx => by rw [ma_row_ne _ _ _ _ _ hx, h1 x hx], fun S hS => ?_⟩
      · simp only [l_X12_timetable_96]
        simp (disch := omega) only [qn0, qn1, qn2, qn3, qn4, qn5, qn6, qn7, qn8, qn9, qn10, qn11, qn12, qn13, qn14, qn15, qn16, qn17, qn18, qn24, qn30, qn31, qn32, qn33, qn36, qn38, qn40, qn41, qn42, qn43, qn45, qn47, qn48, qn49, qn50, qn51, qn52, qn53, qn57, qn58, qn59, qn60, qn61, qn62, qn63, qn91, qn93, qn97, qn99, qn100, qn103, qn104, qn112, qn113, qn115, qn116, qn118, qn119, qn121, qn124, qn173, qn177, qn240, qn255, qn295, qn352, qn353, qn533, qn999, qn1000, qn1023, qn6561, qn10000, qn20787, qn1000000, qn252645135, qn858993459, qn1000000000, qn1431655765, q_s1, q_s2, q_s3, q_s4, q_s5, iI_add, iI_sub, iI_mul, iI_neg, q_lt, q_le, q_eq, qz0, qz1, qz2, qz3, if_pos, if_neg, reduceIte, e5]
      · by_cases d : S = J
        · subst d
          rw [gs_up_eq]
        · rw [ma_cell_ne _ _ _ _ _ _ (by omega)]
          exact h2 S (by omega))
    (by
      rintro f k ⟨h1, h2⟩
      refine ⟨_, ?_, k, h1, h2, iI ((9 : Nat) : Int), rfl⟩
      simp only [l_X12_timetable_96]
      simp (disch := omega) only [qn0, qn1, qn2, qn3, qn4, qn5, qn6, qn7, qn8, qn9, qn10, qn11, qn12, qn13, qn14, qn15, qn16, qn17, qn18, qn24, qn30, qn31, qn32, qn33, qn36, qn38, qn40, qn41, qn42, qn43, qn45, qn47, qn48, qn49, qn50, qn51, qn52, qn53, qn57, qn58, qn59, qn60, qn61, qn62, qn63, qn91, qn93, qn97, qn99, qn100, qn103, qn104, qn112, qn113, qn115, qn116, qn118, qn119, qn121, qn124, qn173, qn177, qn240, qn255, qn295, qn352, qn353, qn533, qn999, qn1000, qn1023, qn6561, qn10000, qn20787, qn1000000, qn252645135, qn858993459, qn1000000000, qn1431655765, q_s1, q_s2, q_s3, q_s4, q_s5, iI_add, iI_sub, iI_mul, iI_neg, q_lt, q_le, q_eq, qz0, qz1, qz2, qz3, if_pos, if_neg, reduceIte])
  exact ⟨j, N, e, h1, h2⟩
end TT7
section TT7b
variable {s : Nat → Int} {T : Nat → Nat → Int} {V : ma_V} {M N : gs_M} {n : Nat}
theorem m_49 (W : ma_W s T V) (D : ma_M s T V M) {K : Nat} (hK : (K : Int) < T 3 0) (x1 x2 : Int32) : ∃ j N, l_X12_timetable_49 x1 x2 (iI (K : Int)) gs_FU (iI 0) M = some (j, N) ∧ iv_co M N ∧ (∀ h : Nat, h < (T 1 0).toNat → N 167 (9 * K + h) = iI (tt_g s T V K h)) ∧ ∀ y, y < 9 * K → N 167 y = M 167 y := by
  have w := W.2.1
  obtain ⟨f1, f2, -⟩ := W.2.1
  obtain ⟨r, e, N, h1, h2, h4, j, rfl⟩ := ma_up0 (fun f i (k : gs_M) => l_X12_timetable_49 x1 x2 (iI (K : Int)) f i k) (T 1 0).toNat
    (fun i k => iv_co M k ∧ (∀ h, h < i → k 167 (9 * K + h) = iI (tt_g s T V K h)) ∧ ∀ y, y < 9 * K → k 167 y = M 167 y)
    (fun r => ∃ N, iv_co M N ∧ (∀ h, h < (T 1 0).toNat → N 167 (9 * K + h) = iI (tt_g s T V K h)) ∧ (∀ y, y < 9 * K → N 167 y = M 167 y) ∧ ∃ j, r = (j, N)) M (by omega) ⟨iv_co.rf, fun h hh => by omega, fun _ _ => rfl⟩
    (by
      rintro f i k hi ⟨h1, h2, h4⟩
      left
      have DN := D.co w h1
      obtain ⟨N1, e1, g1⟩ := m_nw W DN (p := K) (h := i) hK (by omega)
      have e0 := m_rule0 DN
      have e5 : ∀ y, gs_wr N1 167 72 (iI (9 * (K : Int) + i)) y = some (gs_up N1 167 (9 * K + i) y) := fun y => by rw [q_wrn (9 * K + i) (by omega) (by omega) (by decide)]
      have hr : N1 167 = k 167 := funext fun y => g1 167 y rfl
      refine ⟨gs_up N1 167 (9 * K + i) (iI (10 - ma_now s T V K i)), ?_, (h1.tr g1.co).up _ (by simp [iv_scr]), fun h hh => ?_, fun y hy => by rw [ma_cell_ne _ _ _ _ _ _ (by omega), hr, h4 y hy]⟩
      · simp only [l_X12_timetable_49]
        simp (disch := omega) only [qn0, qn1, qn2, qn3, qn4, qn5, qn6, qn7, qn8, qn9, qn10, qn11, qn12, qn13, qn14, qn15, qn16, qn17, qn18, qn24, qn30, qn31, qn32, qn33, qn36, qn38, qn40, qn41, qn42, qn43, qn45, qn47, qn48, qn49, qn50, qn51, qn52, qn53, qn57, qn58, qn59, qn60, qn61, qn62, qn63, qn91, qn93, qn97, qn99, qn100, qn103, qn104, qn112, qn113, qn115, qn116, qn118, qn119, qn121, qn124, qn173, qn177, qn240, qn255, qn295, qn352, qn353, qn533, qn999, qn1000, qn1023, qn6561, qn10000, qn20787, qn1000000, qn252645135, qn858993459, qn1000000000, qn1431655765, q_s1, q_s2, q_s3, q_s4, q_s5, iI_add, iI_sub, iI_mul, iI_neg, q_lt, q_le, q_eq, qz0, qz1, qz2, qz3, if_pos, if_neg, reduceIte, e0, e1, e5]
      · by_cases d : h = i
        · subst d
          rw [gs_up_eq]
          rfl
        · rw [ma_cell_ne _ _ _ _ _ _ (by omega), hr]
          exact h2 h (by omega))
    (by
      rintro f k ⟨h1, h2, h4⟩
      have DN := D.co w h1
      have e0 := m_rule0 DN
      refine ⟨_, ?_, k, h1, h2, h4, iI ((T 1 0).toNat : Nat), rfl⟩
      simp only [l_X12_timetable_49]
      simp (disch := omega) only [qn0, qn1, qn2, qn3, qn4, qn5, qn6, qn7, qn8, qn9, qn10, qn11, qn12, qn13, qn14, qn15, qn16, qn17, qn18, qn24, qn30, qn31, qn32, qn33, qn36, qn38, qn40, qn41, qn42, qn43, qn45, qn47, qn48, qn49, qn50, qn51, qn52, qn53, qn57, qn58, qn59, qn60, qn61, qn62, qn63, qn91, qn93, qn97, qn99, qn100, qn103, qn104, qn112, qn113, qn115, qn116, qn118, qn119, qn121, qn124, qn173, qn177, qn240, qn255, qn295, qn352, qn353, qn533, qn999, qn1000, qn1023, qn6561, qn10000, qn20787, qn1000000, qn252645135, qn858993459, qn1000000000, qn1431655765, q_s1, q_s2, q_s3, q_s4, q_s5, iI_add, iI_sub, iI_mul, iI_neg, q_lt, q_le, q_eq, qz0, qz1, qz2, qz3, if_pos, if_neg, reduceIte, e0])
  exact ⟨j, N, e, h1, h2, h4⟩
theorem m_38 (W : ma_W s T V) (D : ma_M s T V M) (x1 x2 : Int32) : ∃ j N, l_X12_timetable_38 x1 x2 gs_FU (iI 0) M = some (j, N) ∧ iv_co M N ∧ ∀ p h : Nat, p < (T 3 0).toNat → h < (T 1 0).toNat → N 167 (9 * p + h) = iI (tt_g s T V p h) := by
  have w := W.2.1
  obtain ⟨f1, f2, -⟩ := W.2.1
  obtain ⟨r, e, N, h1, h2, j, rfl⟩ := ma_up0 (fun f i (k : gs_M) => l_X12_timetable_38 x1 x2 f i k) (T 3 0).toNat
    (fun i k => iv_co M k ∧ ∀ p h : Nat, p < i → h < (T 1 0).toNat → k 167 (9 * p + h) = iI (tt_g s T V p h))
    (fun r => ∃ N, iv_co M N ∧ (∀ p h : Nat, p < (T 3 0).toNat → h < (T 1 0).toNat → N 167 (9 * p + h) = iI (tt_g s T V p h)) ∧ ∃ j, r = (j, N)) M (by omega) ⟨iv_co.rf, fun p h hp => by omega⟩
    (by
      rintro f i k hi ⟨h1, h2⟩
      left
      have DN := D.co w h1
      obtain ⟨j, N1, e1, g1, g2, g3⟩ := m_49 W DN (K := i) (by omega) x1 x2
      have e0 := DN.fo
      refine ⟨N1, ?_, h1.tr g1, fun p h hp hh => ?_⟩
      · simp only [l_X12_timetable_38]
        simp (disch := omega) only [qn0, qn1, qn2, qn3, qn4, qn5, qn6, qn7, qn8, qn9, qn10, qn11, qn12, qn13, qn14, qn15, qn16, qn17, qn18, qn24, qn30, qn31, qn32, qn33, qn36, qn38, qn40, qn41, qn42, qn43, qn45, qn47, qn48, qn49, qn50, qn51, qn52, qn53, qn57, qn58, qn59, qn60, qn61, qn62, qn63, qn91, qn93, qn97, qn99, qn100, qn103, qn104, qn112, qn113, qn115, qn116, qn118, qn119, qn121, qn124, qn173, qn177, qn240, qn255, qn295, qn352, qn353, qn533, qn999, qn1000, qn1023, qn6561, qn10000, qn20787, qn1000000, qn252645135, qn858993459, qn1000000000, qn1431655765, q_s1, q_s2, q_s3, q_s4, q_s5, iI_add, iI_sub, iI_mul, iI_neg, q_lt, q_le, q_eq, qz0, qz1, qz2, qz3, if_pos, if_neg, reduceIte, e0, e1]
      · rcases (by omega : p < i ∨ p = i) with c | c
        · rw [g3 _ (by omega)]
          exact h2 p h c hh
        · subst c
          exact g2 h hh)
    (by
      rintro f k ⟨h1, h2⟩
      have DN := D.co w h1
      have e0 := DN.fo
      refine ⟨_, ?_, k, h1, h2, iI ((T 3 0).toNat : Nat), rfl⟩
      simp only [l_X12_timetable_38]
      simp (disch := omega) only [qn0, qn1, qn2, qn3, qn4, qn5, qn6, qn7, qn8, qn9, qn10, qn11, qn12, qn13, qn14, qn15, qn16, qn17, qn18, qn24, qn30, qn31, qn32, qn33, qn36, qn38, qn40, qn41, qn42, qn43, qn45, qn47, qn48, qn49, qn50, qn51, qn52, qn53, qn57, qn58, qn59, qn60, qn61, qn62, qn63, qn91, qn93, qn97, qn99, qn100, qn103, qn104, qn112, qn113, qn115, qn116, qn118, qn119, qn121, qn124, qn173, qn177, qn240, qn255, qn295, qn352, qn353, qn533, qn999, qn1000, qn1023, qn6561, qn10000, qn20787, qn1000000, qn252645135, qn858993459, qn1000000000, qn1431655765, q_s1, q_s2, q_s3, q_s4, q_s5, iI_add, iI_sub, iI_mul, iI_neg, q_lt, q_le, q_eq, qz0, qz1, qz2, qz3, if_pos, if_neg, reduceIte, e0])
  exact ⟨j, N, e, h1, h2⟩
/-- fill -/
theorem c_fill (W : ma_W s T V) (C : ma_C s T V M) (hq : n + 1 = 2 ∨ n + 1 = 3) : ∃ N, f_X8_fill M (iI (n : Int)) = some (iI (tt_bt N 0), N) ∧ iv_co M N ∧ tc_B (T 1 0).toNat (T 3 0).toNat n (tt_g s T V) (tt_fr s) N ∧ N 4 0 = iI ((T 1 0).toNat : Int) ∧ ∀ y, y < (n + 1) ^ tt_c (tt_fr s) (T 3 0).toNat → tt_sp (T 1 0).toNat (T 3 0).toNat n (tt_g s T V) (tt_fr s) y (tt_bt N y) := by
  have w := W.2.1
  obtain ⟨f1, f2, -⟩ := W.2.1
  have hF := tt_c_b (tt_fr s) (T 3 0).toNat
  have hpw := q_pw (n + 1) (by omega) (tt_c (tt_fr s) (T 3 0).toNat) (by omega)
  have hp0 : 0 < (n + 1) ^ tt_c (tt_fr s) (T 3 0).toNat := Nat.pow_pos (by omega)
  have h0 : iv_co M (gs_up M 140 9 (iI (n : Int))) := iv_co.rf.up (i := 140) (k := 9) _ rfl
  obtain ⟨N1, e1, g1, B1⟩ := c_gat W (C.co w h0) hq (gs_up_eq _ _ _ _)
  have C1 := C.co w (h0.tr g1)
  have hr4 : N1 4 0 = iI ((T 1 0).toNat : Int) := by
    rw [C1.ru (k := 0) (by decide)]
    congr 1
    omega
  obtain ⟨j, N2, e2, B2, h4, g2, hs⟩ := c_tfl (M := M) hq (by omega) (by omega) (tt_g_b s T V) (iI (n : Int)) (iI (((n + 1) ^ tt_c (tt_fr s) (T 3 0).toNat : Nat) : Int)) ((n + 1) ^ tt_c (tt_fr s) (T 3 0).toNat) gs_FU N1 (Nat.le_refl _) B1 hr4 (h0.tr g1) (fun y hy hy2 => by omega) (by show _ < 30000; omega)
  have e3 : gs_rd N2 141 6561 (iI 0) = some (iI (tt_bt N2 0)) := by rw [q_rdn (z := 0) 0 rfl (by decide) (by decide), tt_bt_c N2]
  refine ⟨N2, ?_, g2, B2, h4, hs⟩
  unfold f_X8_fill
  simp (disch := omega) only [qn0, qn1, qn2, qn3, qn4, qn5, qn6, qn7, qn8, qn9, qn10, qn11, qn12, qn13, qn14, qn15, qn16, qn17, qn18, qn24, qn30, qn31, qn32, qn33, qn36, qn38, qn40, qn41, qn42, qn43, qn45, qn47, qn48, qn49, qn50, qn51, qn52, qn53, qn57, qn58, qn59, qn60, qn61, qn62, qn63, qn91, qn93, qn97, qn99, qn100, qn103, qn104, qn112, qn113, qn115, qn116, qn118, qn119, qn121, qn124, qn173, qn177, qn240, qn255, qn295, qn352, qn353, qn533, qn999, qn1000, qn1023, qn6561, qn10000, qn20787, qn1000000, qn252645135, qn858993459, qn1000000000, qn1431655765, q_s1, q_s2, q_s3, q_s4, q_s5, iI_add, iI_sub, iI_mul, iI_neg, q_lt, q_le, q_eq, qz0, qz1, qz2, qz3, if_pos, if_neg, reduceIte, e1, e2, e3]
theorem tm_of (W : ma_W s T V) (D : ma_M s T V M) (hw : ∀ p h : Nat, p < (T 3 0).toNat → h < (T 1 0).toNat → M 167 (9 * p + h) = iI (tt_g s T V p h)) (hf : ∀ h, h < 9 → M 168 h = iI (-1)) (d : Nat → Nat) : tm_B (T 1 0).toNat (T 3 0).toNat (tt_g s T V) (tt_fr s) (tt_f0 d 0) M := by
  obtain ⟨f1, f2, -⟩ := W.2.1
  refine ⟨?_, ?_, fun p hp => ?_, hw, fun h hh => ?_⟩
  · rw [D.ru (k := 0) (by decide)]
    congr 1
    omega
  · rw [D.fo]
    congr 1
    omega
  · have e := D.st (6 * p + 5) (by omega)
    have hone := W.1.1 p (by omega)
    unfold ma_one at hone
    rw [e]
    congr 1
    unfold tt_fr
    by_cases c : s (6 * p + 5) = 0
    · rw [decide_eq_true c, if_pos rfl]
      exact c
    · rw [decide_eq_false c, if_neg (by decide)]
      omega
  · have e : tt_f0 d 0 h = -1 := if_neg (by omega)
    rw [e]
    exact ⟨hf h (by omega), by decide, by decide⟩
end TT7b
theorem s_timetable : gl_S_timetable ma_Inv := by
  intro M L hI x1 x2
  have hI0 := hI
  obtain ⟨s, T, V, W, C, D⟩ := hI
  have w := W.2.1
  obtain ⟨f1, f2, f3, f4, f5, f6, f7, f8, f9, f10, f11, f12, f13, f14, -⟩ := W.2.1
  have D1 := ma_D0 D w (iI 0)
  obtain ⟨z, z1, z2, rfl⟩ := q_any x1
  obtain ⟨y, y1, y2, rfl⟩ := q_any x2
  rcases (by omega : T 3 0 = 0 ∨ 0 < T 3 0) with c0 | c0
  · have r24 := D1.fo
    rw [c0] at r24
    refine ⟨iI (-1), M, gs_up M 147 0 (iI 0), ?_, ?_, hI0.ag (ma_g0 iv_ag.rf _)⟩
    · unfold f_X11_timetable
      simp (disch := omega) only [qn0, qn1, qn2, qn3, qn4, qn5, qn6, qn7, qn8, qn9, qn10, qn11, qn12, qn13, qn14, qn15, qn16, qn17, qn18, qn24, qn30, qn31, qn32, qn33, qn36, qn38, qn40, qn41, qn42, qn43, qn45, qn47, qn48, qn49, qn50, qn51, qn52, qn53, qn57, qn58, qn59, qn60, qn61, qn62, qn63, qn91, qn93, qn97, qn99, qn100, qn103, qn104, qn112, qn113, qn115, qn116, qn118, qn119, qn121, qn124, qn173, qn177, qn240, qn255, qn295, qn352, qn353, qn533, qn999, qn1000, qn1023, qn6561, qn10000, qn20787, qn1000000, qn252645135, qn858993459, qn1000000000, qn1431655765, q_s1, q_s2, q_s3, q_s4, q_s5, iI_add, iI_sub, iI_mul, iI_neg, q_lt, q_le, q_eq, qz0, qz1, qz2, qz3, if_pos, if_neg, reduceIte, c_town0 C c0]
    · unfold f_X12_timetable
      simp (disch := omega) only [qn0, qn1, qn2, qn3, qn4, qn5, qn6, qn7, qn8, qn9, qn10, qn11, qn12, qn13, qn14, qn15, qn16, qn17, qn18, qn24, qn30, qn31, qn32, qn33, qn36, qn38, qn40, qn41, qn42, qn43, qn45, qn47, qn48, qn49, qn50, qn51, qn52, qn53, qn57, qn58, qn59, qn60, qn61, qn62, qn63, qn91, qn93, qn97, qn99, qn100, qn103, qn104, qn112, qn113, qn115, qn116, qn118, qn119, qn121, qn124, qn173, qn177, qn240, qn255, qn295, qn352, qn353, qn533, qn999, qn1000, qn1023, qn6561, qn10000, qn20787, qn1000000, qn252645135, qn858993459, qn1000000000, qn1431655765, qj0, qj1, qj2, qj4, qj7, qj8, qj9, qj10, qj30, qj100, qj1000, qj1000000, qj1000000000, qj1442695040888963407, qj6364136223846793005, q_s1, q_s2, q_s3, q_s4, q_s5, iI_add, iI_sub, iI_mul, iI_neg, q_lt, q_le, q_eq, jI_add, jI_sub, jI_mul, jI_neg, jI_of, jI_to, j_le0, j_ge0, j_lt0, j_gt0, j_eq0, q_dvl, qz0, qz1, qz2, qz3, if_pos, if_neg, reduceIte, r24]
  have r24 := D1.fo
  rcases (by omega : z < 1 ∨ 2 < z ∨ (1 ≤ z ∧ z ≤ 2)) with c1 | c1 | c1
  · refine ⟨iI (-1), M, gs_up M 147 0 (iI 0), ?_, ?_, hI0.ag (ma_g0 iv_ag.rf _)⟩
    · unfold f_X11_timetable
      simp (disch := omega) only [qn0, qn1, qn2, qn3, qn4, qn5, qn6, qn7, qn8, qn9, qn10, qn11, qn12, qn13, qn14, qn15, qn16, qn17, qn18, qn24, qn30, qn31, qn32, qn33, qn36, qn38, qn40, qn41, qn42, qn43, qn45, qn47, qn48, qn49, qn50, qn51, qn52, qn53, qn57, qn58, qn59, qn60, qn61, qn62, qn63, qn91, qn93, qn97, qn99, qn100, qn103, qn104, qn112, qn113, qn115, qn116, qn118, qn119, qn121, qn124, qn173, qn177, qn240, qn255, qn295, qn352, qn353, qn533, qn999, qn1000, qn1023, qn6561, qn10000, qn20787, qn1000000, qn252645135, qn858993459, qn1000000000, qn1431655765, q_s1, q_s2, q_s3, q_s4, q_s5, iI_add, iI_sub, iI_mul, iI_neg, q_lt, q_le, q_eq, qz0, qz1, qz2, qz3, if_pos, if_neg, reduceIte, c_town1 w C c0]
    · unfold f_X12_timetable
      simp (disch := omega) only [qn0, qn1, qn2, qn3, qn4, qn5, qn6, qn7, qn8, qn9, qn10, qn11, qn12, qn13, qn14, qn15, qn16, qn17, qn18, qn24, qn30, qn31, qn32, qn33, qn36, qn38, qn40, qn41, qn42, qn43, qn45, qn47, qn48, qn49, qn50, qn51, qn52, qn53, qn57, qn58, qn59, qn60, qn61, qn62, qn63, qn91, qn93, qn97, qn99, qn100, qn103, qn104, qn112, qn113, qn115, qn116, qn118, qn119, qn121, qn124, qn173, qn177, qn240, qn255, qn295, qn352, qn353, qn533, qn999, qn1000, qn1023, qn6561, qn10000, qn20787, qn1000000, qn252645135, qn858993459, qn1000000000, qn1431655765, qj0, qj1, qj2, qj4, qj7, qj8, qj9, qj10, qj30, qj100, qj1000, qj1000000, qj1000000000, qj1442695040888963407, qj6364136223846793005, q_s1, q_s2, q_s3, q_s4, q_s5, iI_add, iI_sub, iI_mul, iI_neg, q_lt, q_le, q_eq, jI_add, jI_sub, jI_mul, jI_neg, jI_of, jI_to, j_le0, j_ge0, j_lt0, j_gt0, j_eq0, q_dvl, qz0, qz1, qz2, qz3, if_pos, if_neg, reduceIte, r24, m_isOut]
  · refine ⟨iI (-1), M, gs_up M 147 0 (iI 0), ?_, ?_, hI0.ag (ma_g0 iv_ag.rf _)⟩
    · unfold f_X11_timetable
      simp (disch := omega) only [qn0, qn1, qn2, qn3, qn4, qn5, qn6, qn7, qn8, qn9, qn10, qn11, qn12, qn13, qn14, qn15, qn16, qn17, qn18, qn24, qn30, qn31, qn32, qn33, qn36, qn38, qn40, qn41, qn42, qn43, qn45, qn47, qn48, qn49, qn50, qn51, qn52, qn53, qn57, qn58, qn59, qn60, qn61, qn62, qn63, qn91, qn93, qn97, qn99, qn100, qn103, qn104, qn112, qn113, qn115, qn116, qn118, qn119, qn121, qn124, qn173, qn177, qn240, qn255, qn295, qn352, qn353, qn533, qn999, qn1000, qn1023, qn6561, qn10000, qn20787, qn1000000, qn252645135, qn858993459, qn1000000000, qn1431655765, q_s1, q_s2, q_s3, q_s4, q_s5, iI_add, iI_sub, iI_mul, iI_neg, q_lt, q_le, q_eq, qz0, qz1, qz2, qz3, if_pos, if_neg, reduceIte, c_town1 w C c0]
    · unfold f_X12_timetable
      simp (disch := omega) only [qn0, qn1, qn2, qn3, qn4, qn5, qn6, qn7, qn8, qn9, qn10, qn11, qn12, qn13, qn14, qn15, qn16, qn17, qn18, qn24, qn30, qn31, qn32, qn33, qn36, qn38, qn40, qn41, qn42, qn43, qn45, qn47, qn48, qn49, qn50, qn51, qn52, qn53, qn57, qn58, qn59, qn60, qn61, qn62, qn63, qn91, qn93, qn97, qn99, qn100, qn103, qn104, qn112, qn113, qn115, qn116, qn118, qn119, qn121, qn124, qn173, qn177, qn240, qn255, qn295, qn352, qn353, qn533, qn999, qn1000, qn1023, qn6561, qn10000, qn20787, qn1000000, qn252645135, qn858993459, qn1000000000, qn1431655765, qj0, qj1, qj2, qj4, qj7, qj8, qj9, qj10, qj30, qj100, qj1000, qj1000000, qj1000000000, qj1442695040888963407, qj6364136223846793005, q_s1, q_s2, q_s3, q_s4, q_s5, iI_add, iI_sub, iI_mul, iI_neg, q_lt, q_le, q_eq, jI_add, jI_sub, jI_mul, jI_neg, jI_of, jI_to, j_le0, j_ge0, j_lt0, j_gt0, j_eq0, q_dvl, qz0, qz1, qz2, qz3, if_pos, if_neg, reduceIte, r24, m_isOut]
  rcases (by omega : y < 0 ∨ 1 < y ∨ (0 ≤ y ∧ y ≤ 1)) with c2 | c2 | c2
  · refine ⟨iI (-1), M, gs_up M 147 0 (iI 0), ?_, ?_, hI0.ag (ma_g0 iv_ag.rf _)⟩
    · unfold f_X11_timetable
      simp (disch := omega) only [qn0, qn1, qn2, qn3, qn4, qn5, qn6, qn7, qn8, qn9, qn10, qn11, qn12, qn13, qn14, qn15, qn16, qn17, qn18, qn24, qn30, qn31, qn32, qn33, qn36, qn38, qn40, qn41, qn42, qn43, qn45, qn47, qn48, qn49, qn50, qn51, qn52, qn53, qn57, qn58, qn59, qn60, qn61, qn62, qn63, qn91, qn93, qn97, qn99, qn100, qn103, qn104, qn112, qn113, qn115, qn116, qn118, qn119, qn121, qn124, qn173, qn177, qn240, qn255, qn295, qn352, qn353, qn533, qn999, qn1000, qn1023, qn6561, qn10000, qn20787, qn1000000, qn252645135, qn858993459, qn1000000000, qn1431655765, q_s1, q_s2, q_s3, q_s4, q_s5, iI_add, iI_sub, iI_mul, iI_neg, q_lt, q_le, q_eq, qz0, qz1, qz2, qz3, if_pos, if_neg, reduceIte, c_town1 w C c0]
    · unfold f_X12_timetable
      simp (disch := omega) only [qn0, qn1, qn2, qn3, qn4, qn5, qn6, qn7, qn8, qn9, qn10, qn11, qn12, qn13, qn14, qn15, qn16, qn17, qn18, qn24, qn30, qn31, qn32, qn33, qn36, qn38, qn40, qn41, qn42, qn43, qn45, qn47, qn48, qn49, qn50, qn51, qn52, qn53, qn57, qn58, qn59, qn60, qn61, qn62, qn63, qn91, qn93, qn97, qn99, qn100, qn103, qn104, qn112, qn113, qn115, qn116, qn118, qn119, qn121, qn124, qn173, qn177, qn240, qn255, qn295, qn352, qn353, qn533, qn999, qn1000, qn1023, qn6561, qn10000, qn20787, qn1000000, qn252645135, qn858993459, qn1000000000, qn1431655765, qj0, qj1, qj2, qj4, qj7, qj8, qj9, qj10, qj30, qj100, qj1000, qj1000000, qj1000000000, qj1442695040888963407, qj6364136223846793005, q_s1, q_s2, q_s3, q_s4, q_s5, iI_add, iI_sub, iI_mul, iI_neg, q_lt, q_le, q_eq, jI_add, jI_sub, jI_mul, jI_neg, jI_of, jI_to, j_le0, j_ge0, j_lt0, j_gt0, j_eq0, q_dvl, qz0, qz1, qz2, qz3, if_pos, if_neg, reduceIte, r24, m_isIn, m_isOut]
  · refine ⟨iI (-1), M, gs_up M 147 0 (iI 0), ?_, ?_, hI0.ag (ma_g0 iv_ag.rf _)⟩
    · unfold f_X11_timetable
      simp (disch := omega) only [qn0, qn1, qn2, qn3, qn4, qn5, qn6, qn7, qn8, qn9, qn10, qn11, qn12, qn13, qn14, qn15, qn16, qn17, qn18, qn24, qn30, qn31, qn32, qn33, qn36, qn38, qn40, qn41, qn42, qn43, qn45, qn47, qn48, qn49, qn50, qn51, qn52, qn53, qn57, qn58, qn59, qn60, qn61, qn62, qn63, qn91, qn93, qn97, qn99, qn100, qn103, qn104, qn112, qn113, qn115, qn116, qn118, qn119, qn121, qn124, qn173, qn177, qn240, qn255, qn295, qn352, qn353, qn533, qn999, qn1000, qn1023, qn6561, qn10000, qn20787, qn1000000, qn252645135, qn858993459, qn1000000000, qn1431655765, q_s1, q_s2, q_s3, q_s4, q_s5, iI_add, iI_sub, iI_mul, iI_neg, q_lt, q_le, q_eq, qz0, qz1, qz2, qz3, if_pos, if_neg, reduceIte, c_town1 w C c0]
    · unfold f_X12_timetable
      simp (disch := omega) only [qn0, qn1, qn2, qn3, qn4, qn5, qn6, qn7, qn8, qn9, qn10, qn11, qn12, qn13, qn14, qn15, qn16, qn17, qn18, qn24, qn30, qn31, qn32, qn33, qn36, qn38, qn40, qn41, qn42, qn43, qn45, qn47, qn48, qn49, qn50, qn51, qn52, qn53, qn57, qn58, qn59, qn60, qn61, qn62, qn63, qn91, qn93, qn97, qn99, qn100, qn103, qn104, qn112, qn113, qn115, qn116, qn118, qn119, qn121, qn124, qn173, qn177, qn240, qn255, qn295, qn352, qn353, qn533, qn999, qn1000, qn1023, qn6561, qn10000, qn20787, qn1000000, qn252645135, qn858993459, qn1000000000, qn1431655765, qj0, qj1, qj2, qj4, qj7, qj8, qj9, qj10, qj30, qj100, qj1000, qj1000000, qj1000000000, qj1442695040888963407, qj6364136223846793005, q_s1, q_s2, q_s3, q_s4, q_s5, iI_add, iI_sub, iI_mul, iI_neg, q_lt, q_le, q_eq, jI_add, jI_sub, jI_mul, jI_neg, jI_of, jI_to, j_le0, j_ge0, j_lt0, j_gt0, j_eq0, q_dvl, qz0, qz1, qz2, qz3, if_pos, if_neg, reduceIte, r24, m_isIn, m_isOut]
  obtain ⟨n, rfl⟩ : ∃ n : Nat, z = n := ⟨z.toNat, by omega⟩
  have hq : n + 1 = 2 ∨ n + 1 = 3 := by omega
  obtain ⟨N, e1, g1, B, h4, hs⟩ := c_fill W C hq
  have hp0 : 0 < (n + 1) ^ tt_c (tt_fr s) (T 3 0).toNat := Nat.pow_pos (by omega)
  have s0 := hs 0 hp0
  have hm := tt_mx0 s0
  have s1 := s0.1
  have s2 := s0.2.1
  have key : ∀ M1, iv_co M M1 → ∃ j1 j2 N1 N2 N3, l_X12_timetable_38 (iI (n : Int)) (iI y) gs_FU (iI 0) (gs_up M1 147 0 (iI 0)) = some (j1, N1) ∧ l_X12_timetable_96 (iI (n : Int)) (iI y) gs_FU (iI 0) N1 = some (j2, N2) ∧ f_X12_mostBy N2 (iI (n : Int)) = some (iI (tt_st (T 1 0).toNat n (tt_g s T V) (tt_fr s) (tt_f0 (fun _ => 0) 0) (T 3 0).toNat (2 ^ (T 1 0).toNat - 1)), N3) ∧ iv_co M N3 ∧ ∀ d, tm_B (T 1 0).toNat (T 3 0).toNat (tt_g s T V) (tt_fr s) (tt_f0 d 0) N3 := by
    intro M1 hc
    have h0 : iv_co M (gs_up M1 147 0 (iI 0)) := hc.up (i := 147) (k := 0) _ rfl
    obtain ⟨j1, N1, k1, k2, k3⟩ := m_38 W (D.co w h0) (iI (n : Int)) (iI y)
    obtain ⟨j2, N2, m1, m2, m3⟩ := m_96 (iI (n : Int)) (iI y) N1
    have h2 : iv_co M N2 := (h0.tr k2).tr (fun a b e => by rw [m2 a (by rintro rfl; exact absurd e (by simp [iv_scr]))])
    have BB : ∀ d, tm_B (T 1 0).toNat (T 3 0).toNat (tt_g s T V) (tt_fr s) (tt_f0 d 0) N2 := fun d => tm_of W (D.co w h2) (fun p h hp hh => by rw [m2 167 (by decide)]; exact k3 p h hp hh) m3 d
    obtain ⟨N3, o1, o2⟩ := mt_mb (n := n) (by omega) (by omega) (by omega) (tt_g_b s T V) (BB (fun _ => 0))
    exact ⟨j1, j2, N1, N2, N3, k1, m1, o1, h2.tr (fun a b e => by rw [o2 a (by rintro rfl; exact absurd e (by simp [iv_scr])) (by rintro rfl; exact absurd e (by simp [iv_scr]))]), fun d => (BB d).fz o2⟩
  have hmm := tt_mxm (H := (T 1 0).toNat) (P := (T 3 0).toNat) (n := n) (fr := tt_fr s) (fx := tt_f0 (fun _ => 0) 0) (tt_g_b s T V) (fun h _ => if_neg (by omega))
  have hu := tt_mxu hm hmm
  have hub := tt_st_b (H := (T 1 0).toNat) (n := n) (fr := tt_fr s) (fx := tt_f0 (fun _ => 0) 0) (by omega) (tt_g_b s T V) (T 3 0).toNat (S := 2 ^ (T 1 0).toNat - 1) (by have := Nat.two_pow_pos (T 1 0).toNat; omega)
  rcases (by omega : tt_bt N 0 < 0 ∨ 0 ≤ tt_bt N 0) with c3 | c3
  · have e0 : tt_bt N 0 = -1 := by omega
    have hneg := hu.2 c3
    rw [e0] at e1
    obtain ⟨j1, j2, N1, N2, N3, k1, k2, k3, k4, -⟩ := key N g1
    have r24' := (ma_D0 (D.co w g1) w (iI 0)).fo
    refine ⟨iI (-1), N, N3, ?_, ?_, s, T, V, W, C.co w k4, D.co w k4⟩
    · unfold f_X11_timetable
      simp (disch := omega) only [qn0, qn1, qn2, qn3, qn4, qn5, qn6, qn7, qn8, qn9, qn10, qn11, qn12, qn13, qn14, qn15, qn16, qn17, qn18, qn24, qn30, qn31, qn32, qn33, qn36, qn38, qn40, qn41, qn42, qn43, qn45, qn47, qn48, qn49, qn50, qn51, qn52, qn53, qn57, qn58, qn59, qn60, qn61, qn62, qn63, qn91, qn93, qn97, qn99, qn100, qn103, qn104, qn112, qn113, qn115, qn116, qn118, qn119, qn121, qn124, qn173, qn177, qn240, qn255, qn295, qn352, qn353, qn533, qn999, qn1000, qn1023, qn6561, qn10000, qn20787, qn1000000, qn252645135, qn858993459, qn1000000000, qn1431655765, q_s1, q_s2, q_s3, q_s4, q_s5, iI_add, iI_sub, iI_mul, iI_neg, q_lt, q_le, q_eq, qz0, qz1, qz2, qz3, if_pos, if_neg, reduceIte, c_town1 w C c0, e1]
    · unfold f_X12_timetable
      simp (disch := omega) only [qn0, qn1, qn2, qn3, qn4, qn5, qn6, qn7, qn8, qn9, qn10, qn11, qn12, qn13, qn14, qn15, qn16, qn17, qn18, qn24, qn30, qn31, qn32, qn33, qn36, qn38, qn40, qn41, qn42, qn43, qn45, qn47, qn48, qn49, qn50, qn51, qn52, qn53, qn57, qn58, qn59, qn60, qn61, qn62, qn63, qn91, qn93, qn97, qn99, qn100, qn103, qn104, qn112, qn113, qn115, qn116, qn118, qn119, qn121, qn124, qn173, qn177, qn240, qn255, qn295, qn352, qn353, qn533, qn999, qn1000, qn1023, qn6561, qn10000, qn20787, qn1000000, qn252645135, qn858993459, qn1000000000, qn1431655765, qj0, qj1, qj2, qj4, qj7, qj8, qj9, qj10, qj30, qj100, qj1000, qj1000000, qj1000000000, qj1442695040888963407, qj6364136223846793005, q_s1, q_s2, q_s3, q_s4, q_s5, iI_add, iI_sub, iI_mul, iI_neg, q_lt, q_le, q_eq, jI_add, jI_sub, jI_mul, jI_neg, jI_of, jI_to, j_le0, j_ge0, j_lt0, j_gt0, j_eq0, q_dvl, qz0, qz1, qz2, qz3, if_pos, if_neg, reduceIte, r24', m_isIn, k1, k2, k3]
  · have heq := hu.1 c3
    rcases (by omega : y = 1 ∨ y = 0) with c4 | c4
    · subst c4
      obtain ⟨j1, j2, N1, N2, N3, k1, k2, k3, k4, -⟩ := key N g1
      rw [heq] at k3
      have r24' := (ma_D0 (D.co w g1) w (iI 0)).fo
      refine ⟨iI (tt_bt N 0), N, N3, ?_, ?_, s, T, V, W, C.co w k4, D.co w k4⟩
      · unfold f_X11_timetable
        simp (disch := omega) only [qn0, qn1, qn2, qn3, qn4, qn5, qn6, qn7, qn8, qn9, qn10, qn11, qn12, qn13, qn14, qn15, qn16, qn17, qn18, qn24, qn30, qn31, qn32, qn33, qn36, qn38, qn40, qn41, qn42, qn43, qn45, qn47, qn48, qn49, qn50, qn51, qn52, qn53, qn57, qn58, qn59, qn60, qn61, qn62, qn63, qn91, qn93, qn97, qn99, qn100, qn103, qn104, qn112, qn113, qn115, qn116, qn118, qn119, qn121, qn124, qn173, qn177, qn240, qn255, qn295, qn352, qn353, qn533, qn999, qn1000, qn1023, qn6561, qn10000, qn20787, qn1000000, qn252645135, qn858993459, qn1000000000, qn1431655765, q_s1, q_s2, q_s3, q_s4, q_s5, iI_add, iI_sub, iI_mul, iI_neg, q_lt, q_le, q_eq, qz0, qz1, qz2, qz3, if_pos, if_neg, reduceIte, c_town1 w C c0, e1]
      · unfold f_X12_timetable
        simp (disch := omega) only [qn0, qn1, qn2, qn3, qn4, qn5, qn6, qn7, qn8, qn9, qn10, qn11, qn12, qn13, qn14, qn15, qn16, qn17, qn18, qn24, qn30, qn31, qn32, qn33, qn36, qn38, qn40, qn41, qn42, qn43, qn45, qn47, qn48, qn49, qn50, qn51, qn52, qn53, qn57, qn58, qn59, qn60, qn61, qn62, qn63, qn91, qn93, qn97, qn99, qn100, qn103, qn104, qn112, qn113, qn115, qn116, qn118, qn119, qn121, qn124, qn173, qn177, qn240, qn255, qn295, qn352, qn353, qn533, qn999, qn1000, qn1023, qn6561, qn10000, qn20787, qn1000000, qn252645135, qn858993459, qn1000000000, qn1431655765, qj0, qj1, qj2, qj4, qj7, qj8, qj9, qj10, qj30, qj100, qj1000, qj1000000, qj1000000000, qj1442695040888963407, qj6364136223846793005, q_s1, q_s2, q_s3, q_s4, q_s5, iI_add, iI_sub, iI_mul, iI_neg, q_lt, q_le, q_eq, jI_add, jI_sub, jI_mul, jI_neg, jI_of, jI_to, j_le0, j_ge0, j_lt0, j_gt0, j_eq0, q_dvl, qz0, qz1, qz2, qz3, if_pos, if_neg, reduceIte, r24', m_isIn, k1, k2, k3]
    · subst c4
      obtain ⟨d, N', v1, v2, v3, v4⟩ := c_lr hq (by omega) (by omega) (tt_g_b s T V) B h4 hs c3
      have g2 : iv_co M N' := g1.tr (iv_144 v2)
      obtain ⟨j1, j2, N1, N2, N3, k1, k2, k3, k4, k5⟩ := key N' g2
      rw [heq] at k3
      obtain ⟨j, N4, o1, o2⟩ := m_140 (n := n) (by omega) (by omega) (by omega) (tt_g_b s T V) hm ⟨c3, s2⟩ v3 v4 (k5 d) (iI 0)
      have r24' := (ma_D0 (D.co w g2) w (iI 0)).fo
      have k6 := k4.tr o2
      refine ⟨iI (tt_dn d (T 1 0).toNat), N', N4, ?_, ?_, s, T, V, W, C.co w k6, D.co w k6⟩
      · unfold f_X11_timetable
        simp (disch := omega) only [qn0, qn1, qn2, qn3, qn4, qn5, qn6, qn7, qn8, qn9, qn10, qn11, qn12, qn13, qn14, qn15, qn16, qn17, qn18, qn24, qn30, qn31, qn32, qn33, qn36, qn38, qn40, qn41, qn42, qn43, qn45, qn47, qn48, qn49, qn50, qn51, qn52, qn53, qn57, qn58, qn59, qn60, qn61, qn62, qn63, qn91, qn93, qn97, qn99, qn100, qn103, qn104, qn112, qn113, qn115, qn116, qn118, qn119, qn121, qn124, qn173, qn177, qn240, qn255, qn295, qn352, qn353, qn533, qn999, qn1000, qn1023, qn6561, qn10000, qn20787, qn1000000, qn252645135, qn858993459, qn1000000000, qn1431655765, q_s1, q_s2, q_s3, q_s4, q_s5, iI_add, iI_sub, iI_mul, iI_neg, q_lt, q_le, q_eq, qz0, qz1, qz2, qz3, if_pos, if_neg, reduceIte, c_town1 w C c0, e1, v1]
      · unfold f_X12_timetable
        simp (disch := omega) only [qn0, qn1, qn2, qn3, qn4, qn5, qn6, qn7, qn8, qn9, qn10, qn11, qn12, qn13, qn14, qn15, qn16, qn17, qn18, qn24, qn30, qn31, qn32, qn33, qn36, qn38, qn40, qn41, qn42, qn43, qn45, qn47, qn48, qn49, qn50, qn51, qn52, qn53, qn57, qn58, qn59, qn60, qn61, qn62, qn63, qn91, qn93, qn97, qn99, qn100, qn103, qn104, qn112, qn113, qn115, qn116, qn118, qn119, qn121, qn124, qn173, qn177, qn240, qn255, qn295, qn352, qn353, qn533, qn999, qn1000, qn1023, qn6561, qn10000, qn20787, qn1000000, qn252645135, qn858993459, qn1000000000, qn1431655765, qj0, qj1, qj2, qj4, qj7, qj8, qj9, qj10, qj30, qj100, qj1000, qj1000000, qj1000000000, qj1442695040888963407, qj6364136223846793005, q_s1, q_s2, q_s3, q_s4, q_s5, iI_add, iI_sub, iI_mul, iI_neg, q_lt, q_le, q_eq, jI_add, jI_sub, jI_mul, jI_neg, jI_of, jI_to, j_le0, j_ge0, j_lt0, j_gt0, j_eq0, q_dvl, qz0, qz1, qz2, qz3, if_pos, if_neg, reduceIte, r24', m_isIn, k1, k2, k3, o1]
