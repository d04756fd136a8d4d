/-! ACTS undone, IMAGES -/
section Back
variable {s s' : Nat → Int} {T T' : Nat → Nat → Int} {V V' : ma_V} {M M1 M2 : gs_M}
theorem ma_C.t9 (C : ma_C s T V M) {v : Int} (e1 : ∀ x, x ≠ 13 → M1 x = M x) (e2 : M1 13 2 = iI v) {ny : Nat} (hn : ny < 40) (e3 : M1 13 1 = iI ny) (hv : v ≤ T 3 9) (hx : ∀ nx : Nat, nx < 40 → M 13 1 = iI nx → ∀ t : Nat, (t : Int) < v → (ny + 40 - v.toNat + t) % 40 = (nx + 40 - (T 3 9).toNat + t) % 40) : ma_C s (ma_t T 9 v) V M1 := by
  obtain ⟨h1, h2, h3, h4, h5, h6, h7, h8, h9, h10, h11, h12, h13, h14, h15, h16, ⟨nx, h17, h18, h19⟩, h20, h21⟩ := C
  refine ⟨?_, ?_, ?_, ?_, ?_, ?_, ?_, ?_, ?_, ?_, ?_, e2, ?_, ?_, ?_, ?_, ⟨ny, hn, e3, fun t ht => ?_⟩, fun k hk => (h20 k hk).cg (fun r r1 r2 => e1 r (by omega)), ?_⟩
  · rw [e1 3 (by decide)]; exact h1
  · rw [e1 4 (by decide)]; exact h2
  · rw [e1 5 (by decide)]; exact h3
  · rw [e1 0 (by decide)]; exact h4
  · rw [e1 105 (by decide)]; exact h5
  · rw [e1 95 (by decide)]; exact h6
  · rw [e1 105 (by decide)]; exact h7
  · rw [e1 95 (by decide)]; exact h8
  · rw [e1 134 (by decide)]; exact h9
  · rw [e1 1 (by decide)]; exact h10
  · rw [e1 0 (by decide)]; exact h11
  · rw [e1 2 (by decide)]; exact h13
  · rw [e1 96 (by decide)]; exact h14
  · rw [e1 135 (by decide), e1 136 (by decide), e1 137 (by decide)]; exact h15
  · rw [e1 12 (by decide)]; exact h16
  · have ht' : (t : Int) < v := ht
    have e : (ny + 40 - (ma_t T 9 v 3 9).toNat + t) % 40 = (nx + 40 - (T 3 9).toNat + t) % 40 := hx nx h17 h18 t ht'
    rw [ma_t_r (by omega), e, e1 _ (by omega)]
    exact h19 t (by omega)
  · rw [e1 10 (by decide)]; exact h21
theorem ma_M.t9 (C : ma_M s T V M) {v : Int} (hv : v ≤ T 3 9) : ma_M s (ma_t T 9 v) V (gs_up M 147 35 (iI v)) := by
  obtain ⟨h1, h2, h3, h4, h5, h6, h7, h8, h9, h10, h11, h12, h13, h14, h15, h16, h17, h18, h19⟩ := C
  refine ⟨h1, h2, h3, h4, h5, h6, h7, h8, h9, h10, h11, rfl, h13, h14, h15, h16, fun t ht => ?_, fun k hk => ?_, h19⟩
  · have ht' : (t : Int) < v := ht
    rw [ma_t_r (by omega)]; exact h17 t (by omega)
  · exact (h18 k hk).cg rfl rfl
theorem ma_wT.t9 (w : ma_wT T) {v : Int} (hv : 0 ≤ v ∧ v ≤ T 3 9) : ma_wT (ma_t T 9 v) := by
  obtain ⟨h1, h2, h3, h4, h5, h6, h7, h8, h9, h10, h11, h12, h13, h14, h15, h16, h17, h18, h19⟩ := w
  refine ⟨h1, h2, h3, h4, h5, h6, h7, h8, h9, h10, h11, h12, h13, ⟨hv.1, Int.le_trans hv.2 h14.2⟩, h15, h16, h17, h18, fun t ht => ?_⟩
  have ht' : (t : Int) < v := ht
  rw [ma_t_r (by omega)]; exact h19 t (by omega)
theorem c_undo (W : ma_W s T V) (C : ma_C s T V M) {A : Nat} (hA : T 3 9 = (A + 1 : Nat)) : ∃ M1, f_X0_takeBack M = some (iI A, M1) ∧ ma_C (T (10 + A)) (ma_t T 9 A) V M1 ∧ iv_hi M M1 := by
  have w := W.2.1
  obtain ⟨f1, f2, f3, f4, f5, f6, f7, f8, f9, f10, f11, f12, f13, f14, -⟩ := W.2.1
  have ac := C.ac
  have w' : ma_wT (ma_t T 9 A) := w.t9 (by omega)
  obtain ⟨nx, n40, e1, e2⟩ := C.at
  have e3 : gs_rdq 14 40 (iI (((nx : Int) + 40 - 1) % 40)) = some (15 + 2 * ((nx + 39) % 40)) := by
    rw [show ((nx : Int) + 40 - 1) % 40 = (((nx + 39) % 40 : Nat) : Int) by omega]
    exact gs_rdq_nI (r := 14) (k := 40) (Nat.mod_lt _ (by decide)) (by decide)
  have e4 : ∀ v, gs_up M 13 1 v 13 1 = v := fun v => gs_up_eq _ _ _ _
  have e5 : ∀ v f, gs_row (gs_up M 13 1 v) 10 f 13 2 = iI (T 3 9) := fun v f => by
    rw [ma_rowr_ne _ _ _ _ (by decide), ma_cell_ne _ _ _ _ _ _ (by decide), ac]
  have e6 : ∀ v f u, gs_up (gs_row (gs_up M 13 1 v) 10 f) 13 2 u 13 2 = u := fun v f u => gs_up_eq _ _ _ _
  have hA' : T 3 9 - 1 = A := by omega
  have ha := e2 A (by omega)
  rw [show 16 + 2 * ((nx + 40 - (T 3 9).toNat + A) % 40) = 15 + 2 * ((nx + 39) % 40) + 1 by omega] at ha
  refine ⟨gs_up (gs_row (gs_up M 13 1 (iI (((nx : Int) + 40 - 1) % 40))) 10 (va_cpy (gs_up M 13 1 (iI (((nx : Int) + 40 - 1) % 40)) (15 + 2 * ((nx + 39) % 40) + 1)) (gs_up M 13 1 (iI (((nx : Int) + 40 - 1) % 40)) 10) 0 0 173)) 13 2 (iI A), ?_, ?_, ?_⟩
  · unfold f_X0_takeBack
    simp (disch := omega) only [qn0, qn1, qn2, qn3, qn4, qn5, qn6, qn7, qn8, qn9, qn10, qn11, qn12, qn13, qn14, qn15, qn16, qn17, qn18, qn24, qn30, qn31, qn32, qn33, qn36, qn38, qn40, qn41, qn42, qn43, qn45, qn47, qn48, qn49, qn50, qn51, qn52, qn53, qn57, qn58, qn59, qn60, qn61, qn62, qn63, qn91, qn93, qn97, qn99, qn100, qn103, qn104, qn112, qn113, qn115, qn116, qn118, qn119, qn121, qn124, qn173, qn177, qn240, qn255, qn295, qn352, qn353, qn533, qn999, qn1000, qn1023, qn6561, qn10000, qn20787, qn1000000, qn252645135, qn858993459, qn1000000000, qn1431655765, q_s1, q_s2, q_s3, q_s4, q_s5, iI_add, iI_sub, iI_mul, iI_neg, q_lt, q_le, q_eq, qz0, qz1, qz2, qz3, if_pos, if_neg, reduceIte, ac, e1, q_rm, e4, e3, c_cpyF, e5, e6, hA']
  · have hs : ma_ws (T (10 + A)) := by
      obtain ⟨-, -, -, -, -, -, -, -, -, -, -, -, -, -, -, -, -, -, h19⟩ := w
      exact h19 A (by omega)
    have C1 : ma_C s (ma_t T 9 A) V (gs_up (gs_up M 13 1 (iI (((nx : Int) + 40 - 1) % 40))) 13 2 (iI A)) := by
      refine C.t9 (fun x h => by rw [ma_row_ne _ _ _ _ _ h, ma_row_ne _ _ _ _ _ h]) (gs_up_eq _ _ _ _) (ny := (nx + 39) % 40) (Nat.mod_lt _ (by decide)) ?_ (by omega) ?_
      · rw [ma_cell_ne _ _ _ _ _ _ (by decide), gs_up_eq]
        congr 1
        omega
      · intro ny h1 h2 t ht
        have : iI ny = iI nx := h2.symm.trans e1
        rw [q_eq (by omega)] at this
        omega
    refine C1.st2 w' (fun a b _ h _ => ?_) ?_
    · rw [gs_up_at, gs_up_at, ma_rowr_ne _ _ _ _ h]
    · rw [ma_row_ne _ _ _ _ _ (by decide), ma_rowr_eq]
      refine ha.cg hs (fun k hk => ?_)
      rw [ma_cpy0 hk, ma_row_ne _ _ _ _ _ (by omega)]
  · exact (((iv_hi.rf.up _ (by decide)).row _ (by decide)).up _ (by decide))
theorem m_undo (W : ma_W s T V) (D : ma_M s T V M) {A : Nat} (hA : T 3 9 = (A + 1 : Nat)) : ∃ M1, l_X12_undo_26 gs_FU (iI 0) (gs_up M 147 35 (iI A)) = some (iI 533, M1) ∧ M1 147 35 = iI A ∧ ma_M (T (10 + A)) (ma_t T 9 A) V M1 ∧ iv_lo M M1 := by
  have w := W.2.1
  obtain ⟨f1, f2, f3, f4, f5, f6, f7, f8, f9, f10, f11, f12, f13, f14, -⟩ := W.2.1
  have w' : ma_wT (ma_t T 9 A) := w.t9 (by omega)
  obtain ⟨N, e, hN⟩ := ma_cpl l_X12_undo_26 0 533 160 (533 * A) 158 0 (gs_up M 147 35 (iI A)) (Or.inl (by decide)) (by decide) (by decide)
    (by
      intro f i N' _ hi hN
      have eA : N' 147 35 = iI A := by rw [hN _ _ (by decide), gs_up_eq]
      have e1 : gs_rd N' 160 21320 (iI (533 * A + i)) = some (N' 160 (533 * A + i)) := q_rdn _ (by omega) (by omega) (by decide)
      have e2 : ∀ v, gs_wr N' 158 533 (iI i) v = some (gs_up N' 158 (0 + i) v) := fun v => q_wrn (0 + i) (by omega) (by omega) (by decide)
      simp only [l_X12_undo_26]
      simp (disch := omega) only [qn0, qn1, qn2, qn3, qn4, qn5, qn6, qn7, qn8, qn9, qn10, qn11, qn12, qn13, qn14, qn15, qn16, qn17, qn18, qn24, qn30, qn31, qn32, qn33, qn36, qn38, qn40, qn41, qn42, qn43, qn45, qn47, qn48, qn49, qn50, qn51, qn52, qn53, qn57, qn58, qn59, qn60, qn61, qn62, qn63, qn91, qn93, qn97, qn99, qn100, qn103, qn104, qn112, qn113, qn115, qn116, qn118, qn119, qn121, qn124, qn173, qn177, qn240, qn255, qn295, qn352, qn353, qn533, qn999, qn1000, qn1023, qn6561, qn10000, qn20787, qn1000000, qn252645135, qn858993459, qn1000000000, qn1431655765, q_s1, q_s2, q_s3, q_s4, q_s5, iI_add, iI_sub, iI_mul, iI_neg, q_lt, q_le, q_eq, qz0, qz1, qz2, qz3, if_pos, if_neg, reduceIte, eA, e1, e2])
    (by
      intro f N' hN
      simp only [l_X12_undo_26]
      simp (disch := omega) only [qn0, qn1, qn2, qn3, qn4, qn5, qn6, qn7, qn8, qn9, qn10, qn11, qn12, qn13, qn14, qn15, qn16, qn17, qn18, qn24, qn30, qn31, qn32, qn33, qn36, qn38, qn40, qn41, qn42, qn43, qn45, qn47, qn48, qn49, qn50, qn51, qn52, qn53, qn57, qn58, qn59, qn60, qn61, qn62, qn63, qn91, qn93, qn97, qn99, qn100, qn103, qn104, qn112, qn113, qn115, qn116, qn118, qn119, qn121, qn124, qn173, qn177, qn240, qn255, qn295, qn352, qn353, qn533, qn999, qn1000, qn1023, qn6561, qn10000, qn20787, qn1000000, qn252645135, qn858993459, qn1000000000, qn1431655765, q_s1, q_s2, q_s3, q_s4, q_s5, iI_add, iI_sub, iI_mul, iI_neg, q_lt, q_le, q_eq, qz0, qz1, qz2, qz3, if_pos, if_neg, reduceIte])
  refine ⟨N, e, ?_, ?_, ?_⟩
  · rw [hN, if_neg (by simp), gs_up_eq]
  · refine (D.t9 (v := A) (by omega)).st2 w' (fun a b _ h _ => by rw [hN, if_neg (fun z => h z.1)]) ?_
    intro k hk
    rw [hN, if_pos ⟨rfl, by omega, by omega⟩, ma_row_ne _ _ _ _ _ (by decide)]
    exact D.at (t := A) (by omega) k hk
  · intro a b h1 h2
    rw [hN, if_neg (fun z => by omega), ma_cell_ne _ _ _ _ _ _ (by omega)]
def ma_im (T : Nat → Nat → Int) (s : Nat → Int) : Nat → Nat → Int := fun x => if x = 7 then s else if x = 3 then (fun y => if y = 8 then 1 else T 3 y) else T x
theorem ma_im_r {x : Nat} (h : 8 ≤ x) : ma_im T s x = T x := by
  unfold ma_im
  rw [if_neg (by omega), if_neg (by omega)]
theorem ma_wT.im (w : ma_wT T) (hs : ma_ws s) : ma_wT (ma_im T s) := by
  obtain ⟨h1, h2, h3, h4, h5, h6, h7, h8, h9, h10, h11, h12, h13, h14, h15, h16, h17, h18, h19⟩ := w
  refine ⟨h1, h2, h3, h4, h5, h6, h7, h8, h9, h10, h11, h12, ⟨by show (0 : Int) ≤ 1; decide, by show (1 : Int) ≤ 1; decide⟩, h14, h15, h16, h17, fun _ => hs, fun t ht => ?_⟩
  rw [ma_im_r (by omega)]; exact h19 t ht
theorem c_im (W : ma_W s T V) (C : ma_C s T V M) (f : Nat → Int32) (hf : ma_sC s f) : ma_C s (ma_im T s) V (gs_up (gs_row M 12 f) 0 14 (iI 1)) := by
  obtain ⟨h1, h2, h3, h4, h5, h6, h7, h8, h9, h10, h11, h12, h13, h14, h15, h16, ⟨nx, h17, h18, h19⟩, h20, h21⟩ := C
  have w8 : 0 ≤ T 3 4 ∧ T 3 4 ≤ 4 := W.2.1.2.2.2.2.2.2.2.1
  refine ⟨h1, h2, h3, h4, h5, h6, h7, h8, h9, h10, rfl, h12, h13, h14, h15, fun _ => hf, ⟨nx, h17, h18, fun t ht => ?_⟩, fun k hk => (h20 k hk).cg (fun r r1 r2 => ?_), h21⟩
  · rw [ma_im_r (by omega), ma_row_ne _ _ _ _ _ (by omega), ma_rowr_ne _ _ _ _ (by omega)]
    exact h19 t ht
  · rw [ma_row_ne _ _ _ _ _ (by omega), ma_rowr_ne _ _ _ _ (by omega)]
theorem m_im (D : ma_M s T V M) (hN : ∀ a b, M1 a b = if a = 169 ∧ 0 + 0 ≤ b ∧ b < 0 + 533 then M 158 (0 + (b - 0)) else M a b) : ma_M s (ma_im T s) V (gs_up M1 147 46 (iI 1)) := by
  have R : ∀ x, x ≠ 169 → x ≠ 147 → gs_up M1 147 46 (iI 1) x = M x := fun x h2 h3 => by
    rw [ma_row_ne _ _ _ _ _ h3]
    funext y
    rw [hN, if_neg (fun z => h2 z.1)]
  have R2 : ∀ y, y ≠ 46 → gs_up M1 147 46 (iI 1) 147 y = M 147 y := fun y h2 => by
    rw [ma_cell_ne _ _ _ _ _ _ (fun z => h2 z.2), hN, if_neg (by simp)]
  obtain ⟨h1, h2, h3, h4, h5, h6, h7, h8, h9, h10, h11, h12, h13, h14, h15, h16, h17, h18, h19⟩ := D
  refine ⟨?_, ?_, ?_, ?_, ?_, ?_, ?_, ?_, ?_, ?_, ?_, ?_, ?_, ?_, ?_, ?_, ?_, ?_, ?_⟩
  · rw [R2 24 (by decide)]; exact h1
  · rw [R 152 (by decide) (by decide)]; exact h2
  · rw [R 154 (by decide) (by decide)]; exact h3
  · rw [R2 31 (by decide)]; exact h4
  · rw [R2 29 (by decide)]; exact h5
  · rw [R2 30 (by decide)]; exact h6
  · rw [R2 7 (by decide)]; exact h7
  · rw [R2 26 (by decide)]; exact h8
  · rw [R2 40 (by decide)]; exact h9
  · rw [R2 6 (by decide)]; exact h10
  · rw [gs_up_eq]; rfl
  · rw [R2 35 (by decide)]; exact h12
  · rw [R 148 (by decide) (by decide)]; exact h13
  · rw [R 156 (by decide) (by decide), R 157 (by decide) (by decide)]; exact h14
  · rw [R 162 (by decide) (by decide), R 163 (by decide) (by decide), R 164 (by decide) (by decide)]; exact h15
  · intro _ k hk
    rw [ma_row_ne _ _ _ _ _ (by decide), hN, if_pos ⟨rfl, by omega, by omega⟩, show 0 + (k - 0) = k by omega]
    exact h19 k hk
  · intro t ht
    rw [ma_im_r (by omega), R 160 (by decide) (by decide)]
    exact h17 t ht
  · exact fun k hk => (h18 k hk).cg (R 149 (by decide) (by decide)) (R 150 (by decide) (by decide))
  · rw [R 158 (by decide) (by decide)]; exact h19
end Back
theorem s_undo : gl_S_undo ma_Inv := by
  intro M L hI
  have hI0 := hI
  obtain ⟨s, T, V, W, C, D⟩ := hI
  have w := W.2.1
  obtain ⟨f1, f2, f3, f4, f5, f6, f7, f8, f9, f10, f11, f12, f13, f14, -⟩ := W.2.1
  have D1 := ma_D0 D w (iI 0)
  rcases (by omega : T 3 9 = 0 ∨ 0 < T 3 9) with c | c
  · have e1 := C.ac
    have e2 := D1.ac
    rw [c] at e1 e2
    refine ⟨iI (-1), M, gs_up M 147 0 (iI 0), ?_, ?_, hI0.ag (ma_g0 iv_ag.rf _)⟩
    · unfold f_X11_undo f_X0_takeBack
      simp (disch := omega) only [qn0, qn1, qn2, qn3, qn4, qn5, qn6, qn7, qn8, qn9, qn10, qn11, qn12, qn13, qn14, qn15, qn16, qn17, qn18, qn24, qn30, qn31, qn32, qn33, qn36, qn38, qn40, qn41, qn42, qn43, qn45, qn47, qn48, qn49, qn50, qn51, qn52, qn53, qn57, qn58, qn59, qn60, qn61, qn62, qn63, qn91, qn93, qn97, qn99, qn100, qn103, qn104, qn112, qn113, qn115, qn116, qn118, qn119, qn121, qn124, qn173, qn177, qn240, qn255, qn295, qn352, qn353, qn533, qn999, qn1000, qn1023, qn6561, qn10000, qn20787, qn1000000, qn252645135, qn858993459, qn1000000000, qn1431655765, qj0, qj1, qj2, qj4, qj7, qj8, qj9, qj10, qj30, qj100, qj1000, qj1000000, qj1000000000, qj1442695040888963407, qj6364136223846793005, q_s1, q_s2, q_s3, q_s4, q_s5, iI_add, iI_sub, iI_mul, iI_neg, q_lt, q_le, q_eq, jI_add, jI_sub, jI_mul, jI_neg, jI_of, jI_to, j_le0, j_ge0, j_lt0, j_gt0, j_eq0, q_dvl, qz0, qz1, qz2, qz3, if_pos, if_neg, reduceIte, e1]
    · unfold f_X12_undo
      simp (disch := omega) only [qn0, qn1, qn2, qn3, qn4, qn5, qn6, qn7, qn8, qn9, qn10, qn11, qn12, qn13, qn14, qn15, qn16, qn17, qn18, qn24, qn30, qn31, qn32, qn33, qn36, qn38, qn40, qn41, qn42, qn43, qn45, qn47, qn48, qn49, qn50, qn51, qn52, qn53, qn57, qn58, qn59, qn60, qn61, qn62, qn63, qn91, qn93, qn97, qn99, qn100, qn103, qn104, qn112, qn113, qn115, qn116, qn118, qn119, qn121, qn124, qn173, qn177, qn240, qn255, qn295, qn352, qn353, qn533, qn999, qn1000, qn1023, qn6561, qn10000, qn20787, qn1000000, qn252645135, qn858993459, qn1000000000, qn1431655765, qj0, qj1, qj2, qj4, qj7, qj8, qj9, qj10, qj30, qj100, qj1000, qj1000000, qj1000000000, qj1442695040888963407, qj6364136223846793005, q_s1, q_s2, q_s3, q_s4, q_s5, iI_add, iI_sub, iI_mul, iI_neg, q_lt, q_le, q_eq, jI_add, jI_sub, jI_mul, jI_neg, jI_of, jI_to, j_le0, j_ge0, j_lt0, j_gt0, j_eq0, q_dvl, qz0, qz1, qz2, qz3, if_pos, if_neg, reduceIte, e2]
  · obtain ⟨A, hA⟩ : ∃ A : Nat, T 3 9 = (A + 1 : Nat) := ⟨(T 3 9 - 1).toNat, by omega⟩
    obtain ⟨M1, e1, C1, g1⟩ := c_undo W C hA
    have D2 := ma_D0 (D.hi w g1) w (iI 0)
    obtain ⟨M2, e2, e3, D3, g2⟩ := m_undo W D2 hA
    have e4 := D2.ac
    have hA' : T 3 9 - 1 = A := by omega
    have w' : ma_wT (ma_t T 9 A) := w.t9 (by omega)
    have hs : ma_ws (T (10 + A)) := by
      obtain ⟨-, -, -, -, -, -, -, -, -, -, -, -, -, -, -, -, -, -, h19⟩ := w
      exact h19 A (by omega)
    refine ⟨iI A, M1, M2, ?_, ?_, T (10 + A), ma_t T 9 A, V, ⟨hs, w', W.2.2.t (by decide)⟩, C1.lo w' ((iv_lo.rf.up _ (by decide)).tr g2), D3⟩
    · unfold f_X11_undo
      simp (disch := omega) only [qn0, qn1, qn2, qn3, qn4, qn5, qn6, qn7, qn8, qn9, qn10, qn11, qn12, qn13, qn14, qn15, qn16, qn17, qn18, qn24, qn30, qn31, qn32, qn33, qn36, qn38, qn40, qn41, qn42, qn43, qn45, qn47, qn48, qn49, qn50, qn51, qn52, qn53, qn57, qn58, qn59, qn60, qn61, qn62, qn63, qn91, qn93, qn97, qn99, qn100, qn103, qn104, qn112, qn113, qn115, qn116, qn118, qn119, qn121, qn124, qn173, qn177, qn240, qn255, qn295, qn352, qn353, qn533, qn999, qn1000, qn1023, qn6561, qn10000, qn20787, qn1000000, qn252645135, qn858993459, qn1000000000, qn1431655765, qj0, qj1, qj2, qj4, qj7, qj8, qj9, qj10, qj30, qj100, qj1000, qj1000000, qj1000000000, qj1442695040888963407, qj6364136223846793005, q_s1, q_s2, q_s3, q_s4, q_s5, iI_add, iI_sub, iI_mul, iI_neg, q_lt, q_le, q_eq, jI_add, jI_sub, jI_mul, jI_neg, jI_of, jI_to, j_le0, j_ge0, j_lt0, j_gt0, j_eq0, q_dvl, qz0, qz1, qz2, qz3, if_pos, if_neg, reduceIte, e1]
    · unfold f_X12_undo
      simp (disch := omega) only [qn0, qn1, qn2, qn3, qn4, qn5, qn6, qn7, qn8, qn9, qn10, qn11, qn12, qn13, qn14, qn15, qn16, qn17, qn18, qn24, qn30, qn31, qn32, qn33, qn36, qn38, qn40, qn41, qn42, qn43, qn45, qn47, qn48, qn49, qn50, qn51, qn52, qn53, qn57, qn58, qn59, qn60, qn61, qn62, qn63, qn91, qn93, qn97, qn99, qn100, qn103, qn104, qn112, qn113, qn115, qn116, qn118, qn119, qn121, qn124, qn173, qn177, qn240, qn255, qn295, qn352, qn353, qn533, qn999, qn1000, qn1023, qn6561, qn10000, qn20787, qn1000000, qn252645135, qn858993459, qn1000000000, qn1431655765, qj0, qj1, qj2, qj4, qj7, qj8, qj9, qj10, qj30, qj100, qj1000, qj1000000, qj1000000000, qj1442695040888963407, qj6364136223846793005, q_s1, q_s2, q_s3, q_s4, q_s5, iI_add, iI_sub, iI_mul, iI_neg, q_lt, q_le, q_eq, jI_add, jI_sub, jI_mul, jI_neg, jI_of, jI_to, j_le0, j_ge0, j_lt0, j_gt0, j_eq0, q_dvl, qz0, qz1, qz2, qz3, if_pos, if_neg, reduceIte, e4, hA', e2, e3]
theorem s_image : gl_S_image ma_Inv := by
  intro M L hI
  have hI0 := hI
  obtain ⟨s, T, V, W, C, D⟩ := hI
  have w := W.2.1
  obtain ⟨f1, f2, f3, f4, f5, f6, f7, f8, f9, f10, f11, f12, f13, f14, -⟩ := W.2.1
  have D1 := ma_D0 D w (iI 0)
  rcases (by omega : T 3 0 = 0 ∨ 0 < T 3 0) with c | c
  · refine ⟨iI (-1), M, gs_up M 147 0 (iI 0), ?_, ?_, hI0.ag (ma_g0 iv_ag.rf _)⟩
    · unfold f_X11_image
      simp (disch := omega) only [qn0, qn1, qn2, qn3, qn4, qn5, qn6, qn7, qn8, qn9, qn10, qn11, qn12, qn13, qn14, qn15, qn16, qn17, qn18, qn24, qn30, qn31, qn32, qn33, qn36, qn38, qn40, qn41, qn42, qn43, qn45, qn47, qn48, qn49, qn50, qn51, qn52, qn53, qn57, qn58, qn59, qn60, qn61, qn62, qn63, qn91, qn93, qn97, qn99, qn100, qn103, qn104, qn112, qn113, qn115, qn116, qn118, qn119, qn121, qn124, qn173, qn177, qn240, qn255, qn295, qn352, qn353, qn533, qn999, qn1000, qn1023, qn6561, qn10000, qn20787, qn1000000, qn252645135, qn858993459, qn1000000000, qn1431655765, qj0, qj1, qj2, qj4, qj7, qj8, qj9, qj10, qj30, qj100, qj1000, qj1000000, qj1000000000, qj1442695040888963407, qj6364136223846793005, q_s1, q_s2, q_s3, q_s4, q_s5, iI_add, iI_sub, iI_mul, iI_neg, q_lt, q_le, q_eq, jI_add, jI_sub, jI_mul, jI_neg, jI_of, jI_to, j_le0, j_ge0, j_lt0, j_gt0, j_eq0, q_dvl, qz0, qz1, qz2, qz3, if_pos, if_neg, reduceIte, c_town0 C c]
    · unfold f_X12_image
      simp (disch := omega) only [qn0, qn1, qn2, qn3, qn4, qn5, qn6, qn7, qn8, qn9, qn10, qn11, qn12, qn13, qn14, qn15, qn16, qn17, qn18, qn24, qn30, qn31, qn32, qn33, qn36, qn38, qn40, qn41, qn42, qn43, qn45, qn47, qn48, qn49, qn50, qn51, qn52, qn53, qn57, qn58, qn59, qn60, qn61, qn62, qn63, qn91, qn93, qn97, qn99, qn100, qn103, qn104, qn112, qn113, qn115, qn116, qn118, qn119, qn121, qn124, qn173, qn177, qn240, qn255, qn295, qn352, qn353, qn533, qn999, qn1000, qn1023, qn6561, qn10000, qn20787, qn1000000, qn252645135, qn858993459, qn1000000000, qn1431655765, qj0, qj1, qj2, qj4, qj7, qj8, qj9, qj10, qj30, qj100, qj1000, qj1000000, qj1000000000, qj1442695040888963407, qj6364136223846793005, q_s1, q_s2, q_s3, q_s4, q_s5, iI_add, iI_sub, iI_mul, iI_neg, q_lt, q_le, q_eq, jI_add, jI_sub, jI_mul, jI_neg, jI_of, jI_to, j_le0, j_ge0, j_lt0, j_gt0, j_eq0, q_dvl, qz0, qz1, qz2, qz3, if_pos, if_neg, reduceIte, D1.fo]
  have hc : ma_sC s (va_cpy (M 10) (M 12) 0 0 173) := C.st.cg W.1 (fun k hk => ma_cpy0 hk)
  have C1 := c_im W C _ hc
  have w' : ma_wT (ma_im T s) := w.im W.1
  have D2 := ma_D0 (D.hi w ((iv_hi.rf.row (i := 12) (va_cpy (M 10) (M 12) 0 0 173) (by decide)).up (i := 0) (k := 14) (iI 1) (by decide))) w (iI 0)
  obtain ⟨N, e, hN⟩ := ma_cpl l_X12_image_16 0 533 158 0 169 0 _ (Or.inl (by decide)) (by decide) (by decide)
    (by
      intro f i N' _ hi hN
      have e1 : gs_rd N' 158 533 (iI i) = some (N' 158 (0 + i)) := q_rdn (0 + i) (by omega) (by omega) (by decide)
      have e2 : ∀ v, gs_wr N' 169 533 (iI i) v = some (gs_up N' 169 (0 + i) v) := fun v => q_wrn (0 + i) (by omega) (by omega) (by decide)
      simp only [l_X12_image_16]
      simp (disch := omega) only [qn0, qn1, qn2, qn3, qn4, qn5, qn6, qn7, qn8, qn9, qn10, qn11, qn12, qn13, qn14, qn15, qn16, qn17, qn18, qn24, qn30, qn31, qn32, qn33, qn36, qn38, qn40, qn41, qn42, qn43, qn45, qn47, qn48, qn49, qn50, qn51, qn52, qn53, qn57, qn58, qn59, qn60, qn61, qn62, qn63, qn91, qn93, qn97, qn99, qn100, qn103, qn104, qn112, qn113, qn115, qn116, qn118, qn119, qn121, qn124, qn173, qn177, qn240, qn255, qn295, qn352, qn353, qn533, qn999, qn1000, qn1023, qn6561, qn10000, qn20787, qn1000000, qn252645135, qn858993459, qn1000000000, qn1431655765, q_s1, q_s2, q_s3, q_s4, q_s5, iI_add, iI_sub, iI_mul, iI_neg, q_lt, q_le, q_eq, qz0, qz1, qz2, qz3, if_pos, if_neg, reduceIte, e1, e2])
    (by
      intro f N' hN
      simp only [l_X12_image_16]
      simp (disch := omega) only [qn0, qn1, qn2, qn3, qn4, qn5, qn6, qn7, qn8, qn9, qn10, qn11, qn12, qn13, qn14, qn15, qn16, qn17, qn18, qn24, qn30, qn31, qn32, qn33, qn36, qn38, qn40, qn41, qn42, qn43, qn45, qn47, qn48, qn49, qn50, qn51, qn52, qn53, qn57, qn58, qn59, qn60, qn61, qn62, qn63, qn91, qn93, qn97, qn99, qn100, qn103, qn104, qn112, qn113, qn115, qn116, qn118, qn119, qn121, qn124, qn173, qn177, qn240, qn255, qn295, qn352, qn353, qn533, qn999, qn1000, qn1023, qn6561, qn10000, qn20787, qn1000000, qn252645135, qn858993459, qn1000000000, qn1431655765, q_s1, q_s2, q_s3, q_s4, q_s5, iI_add, iI_sub, iI_mul, iI_neg, q_lt, q_le, q_eq, qz0, qz1, qz2, qz3, if_pos, if_neg, reduceIte])
  have e' : l_X12_image_16 gs_FU (iI 0) (gs_up (gs_up (gs_row M 12 (va_cpy (M 10) (M 12) 0 0 173)) 0 14 (iI 1)) 147 0 (iI 0)) = some (iI 533, N) := e
  have D3 := m_im D2 hN
  have e2 := c_now0 C1.st
  have e3 := m_c48 D3.st
  refine ⟨iI (s 48), gs_up (gs_row M 12 (va_cpy (M 10) (M 12) 0 0 173)) 0 14 (iI 1), gs_up N 147 46 (iI 1), ?_, ?_, s, ma_im T s, V, ⟨W.1, w', W.2.2⟩, C1.lo w' ?_, D3⟩
  · unfold f_X11_image
    simp (disch := omega) only [qn0, qn1, qn2, qn3, qn4, qn5, qn6, qn7, qn8, qn9, qn10, qn11, qn12, qn13, qn14, qn15, qn16, qn17, qn18, qn24, qn30, qn31, qn32, qn33, qn36, qn38, qn40, qn41, qn42, qn43, qn45, qn47, qn48, qn49, qn50, qn51, qn52, qn53, qn57, qn58, qn59, qn60, qn61, qn62, qn63, qn91, qn93, qn97, qn99, qn100, qn103, qn104, qn112, qn113, qn115, qn116, qn118, qn119, qn121, qn124, qn173, qn177, qn240, qn255, qn295, qn352, qn353, qn533, qn999, qn1000, qn1023, qn6561, qn10000, qn20787, qn1000000, qn252645135, qn858993459, qn1000000000, qn1431655765, qj0, qj1, qj2, qj4, qj7, qj8, qj9, qj10, qj30, qj100, qj1000, qj1000000, qj1000000000, qj1442695040888963407, qj6364136223846793005, q_s1, q_s2, q_s3, q_s4, q_s5, iI_add, iI_sub, iI_mul, iI_neg, q_lt, q_le, q_eq, jI_add, jI_sub, jI_mul, jI_neg, jI_of, jI_to, j_le0, j_ge0, j_lt0, j_gt0, j_eq0, q_dvl, qz0, qz1, qz2, qz3, if_pos, if_neg, reduceIte, c_town1 w C c, c_cpyF, Nat.reduceAdd, e2]
  · unfold f_X12_image
    simp (disch := omega) only [qn0, qn1, qn2, qn3, qn4, qn5, qn6, qn7, qn8, qn9, qn10, qn11, qn12, qn13, qn14, qn15, qn16, qn17, qn18, qn24, qn30, qn31, qn32, qn33, qn36, qn38, qn40, qn41, qn42, qn43, qn45, qn47, qn48, qn49, qn50, qn51, qn52, qn53, qn57, qn58, qn59, qn60, qn61, qn62, qn63, qn91, qn93, qn97, qn99, qn100, qn103, qn104, qn112, qn113, qn115, qn116, qn118, qn119, qn121, qn124, qn173, qn177, qn240, qn255, qn295, qn352, qn353, qn533, qn999, qn1000, qn1023, qn6561, qn10000, qn20787, qn1000000, qn252645135, qn858993459, qn1000000000, qn1431655765, qj0, qj1, qj2, qj4, qj7, qj8, qj9, qj10, qj30, qj100, qj1000, qj1000000, qj1000000000, qj1442695040888963407, qj6364136223846793005, q_s1, q_s2, q_s3, q_s4, q_s5, iI_add, iI_sub, iI_mul, iI_neg, q_lt, q_le, q_eq, jI_add, jI_sub, jI_mul, jI_neg, jI_of, jI_to, j_le0, j_ge0, j_lt0, j_gt0, j_eq0, q_dvl, qz0, qz1, qz2, qz3, if_pos, if_neg, reduceIte, D2.fo, e', e3]
  · intro a b h1 h2
    rw [ma_cell_ne _ _ _ _ _ _ (by omega), hN, if_neg (fun z => by omega), ma_cell_ne _ _ _ _ _ _ (by omega)]
theorem s_back : gl_S_back ma_Inv := by
  intro M L hI
  have hI0 := hI
  obtain ⟨s, T, V, W, C, D⟩ := hI
  have w := W.2.1
  obtain ⟨f1, f2, f3, f4, f5, f6, f7, f8, f9, f10, f11, f12, f13, f14, -⟩ := W.2.1
  have D1 := ma_D0 D w (iI 0)
  rcases (by omega : T 3 8 = 0 ∨ T 3 8 = 1) with c | c
  · have e1 := C.im
    have e2 := D1.im
    rw [c] at e1 e2
    refine ⟨iI (-1), M, gs_up M 147 0 (iI 0), ?_, ?_, hI0.ag (ma_g0 iv_ag.rf _)⟩
    · unfold f_X11_back
      simp (disch := omega) only [qn0, qn1, qn2, qn3, qn4, qn5, qn6, qn7, qn8, qn9, qn10, qn11, qn12, qn13, qn14, qn15, qn16, qn17, qn18, qn24, qn30, qn31, qn32, qn33, qn36, qn38, qn40, qn41, qn42, qn43, qn45, qn47, qn48, qn49, qn50, qn51, qn52, qn53, qn57, qn58, qn59, qn60, qn61, qn62, qn63, qn91, qn93, qn97, qn99, qn100, qn103, qn104, qn112, qn113, qn115, qn116, qn118, qn119, qn121, qn124, qn173, qn177, qn240, qn255, qn295, qn352, qn353, qn533, qn999, qn1000, qn1023, qn6561, qn10000, qn20787, qn1000000, qn252645135, qn858993459, qn1000000000, qn1431655765, qj0, qj1, qj2, qj4, qj7, qj8, qj9, qj10, qj30, qj100, qj1000, qj1000000, qj1000000000, qj1442695040888963407, qj6364136223846793005, q_s1, q_s2, q_s3, q_s4, q_s5, iI_add, iI_sub, iI_mul, iI_neg, q_lt, q_le, q_eq, jI_add, jI_sub, jI_mul, jI_neg, jI_of, jI_to, j_le0, j_ge0, j_lt0, j_gt0, j_eq0, q_dvl, qz0, qz1, qz2, qz3, if_pos, if_neg, reduceIte, e1]
    · unfold f_X12_back
      simp (disch := omega) only [qn0, qn1, qn2, qn3, qn4, qn5, qn6, qn7, qn8, qn9, qn10, qn11, qn12, qn13, qn14, qn15, qn16, qn17, qn18, qn24, qn30, qn31, qn32, qn33, qn36, qn38, qn40, qn41, qn42, qn43, qn45, qn47, qn48, qn49, qn50, qn51, qn52, qn53, qn57, qn58, qn59, qn60, qn61, qn62, qn63, qn91, qn93, qn97, qn99, qn100, qn103, qn104, qn112, qn113, qn115, qn116, qn118, qn119, qn121, qn124, qn173, qn177, qn240, qn255, qn295, qn352, qn353, qn533, qn999, qn1000, qn1023, qn6561, qn10000, qn20787, qn1000000, qn252645135, qn858993459, qn1000000000, qn1431655765, qj0, qj1, qj2, qj4, qj7, qj8, qj9, qj10, qj30, qj100, qj1000, qj1000000, qj1000000000, qj1442695040888963407, qj6364136223846793005, q_s1, q_s2, q_s3, q_s4, q_s5, iI_add, iI_sub, iI_mul, iI_neg, q_lt, q_le, q_eq, jI_add, jI_sub, jI_mul, jI_neg, jI_of, jI_to, j_le0, j_ge0, j_lt0, j_gt0, j_eq0, q_dvl, qz0, qz1, qz2, qz3, if_pos, if_neg, reduceIte, e2]
  have hs : ma_ws (T 7) := by
    obtain ⟨-, -, -, -, -, -, -, -, -, -, -, -, -, -, -, -, -, h18, -⟩ := w
    exact h18 c
  have hc : ma_sC (T 7) (va_cpy (M 12) (M 10) 0 0 173) := (C.ig c).cg hs (fun k hk => ma_cpy0 hk)
  have w' : ma_wT (ma_t T 9 0) := w.t9 (by omega)
  obtain ⟨nx, n40, n1, -⟩ := C.at
  have C0 : ma_C s (ma_t T 9 0) V (gs_up M 13 2 (iI 0)) := C.t9 (fun x h => ma_row_ne _ _ _ _ _ h) (gs_up_eq _ _ _ _) n40 (by rw [ma_cell_ne _ _ _ _ _ _ (by decide)]; exact n1) (by omega) (fun _ _ _ t ht => by omega)
  have C1 : ma_C (T 7) (ma_t T 9 0) V (gs_up (gs_row M 10 (va_cpy (M 12) (M 10) 0 0 173)) 13 2 (iI 0)) := by
    refine C0.st2 w' (fun a b _ h _ => ?_) ?_
    · rw [gs_up_at, gs_up_at, ma_rowr_ne _ _ _ _ h]
    · rw [ma_row_ne _ _ _ _ _ (by decide), ma_rowr_eq]
      exact hc
  have D2 := ma_D0 (D.hi w ((iv_hi.rf.row (i := 10) (va_cpy (M 12) (M 10) 0 0 173) (by decide)).up (i := 13) (k := 2) (iI 0) (by decide))) w (iI 0)
  have e0 := C.im
  have e0' := D2.im
  rw [c] at e0 e0'
  obtain ⟨N, e, hN⟩ := ma_cpl l_X12_back_16 0 533 169 0 158 0 _ (Or.inl (by decide)) (by decide) (by decide)
    (by
      intro f i N' _ hi hN
      have e1 : gs_rd N' 169 533 (iI i) = some (N' 169 (0 + i)) := q_rdn (0 + i) (by omega) (by omega) (by decide)
      have e2 : ∀ v, gs_wr N' 158 533 (iI i) v = some (gs_up N' 158 (0 + i) v) := fun v => q_wrn (0 + i) (by omega) (by omega) (by decide)
      simp only [l_X12_back_16]
      simp (disch := omega) only [qn0, qn1, qn2, qn3, qn4, qn5, qn6, qn7, qn8, qn9, qn10, qn11, qn12, qn13, qn14, qn15, qn16, qn17, qn18, qn24, qn30, qn31, qn32, qn33, qn36, qn38, qn40, qn41, qn42, qn43, qn45, qn47, qn48, qn49, qn50, qn51, qn52, qn53, qn57, qn58, qn59, qn60, qn61, qn62, qn63, qn91, qn93, qn97, qn99, qn100, qn103, qn104, qn112, qn113, qn115, qn116, qn118, qn119, qn121, qn124, qn173, qn177, qn240, qn255, qn295, qn352, qn353, qn533, qn999, qn1000, qn1023, qn6561, qn10000, qn20787, qn1000000, qn252645135, qn858993459, qn1000000000, qn1431655765, q_s1, q_s2, q_s3, q_s4, q_s5, iI_add, iI_sub, iI_mul, iI_neg, q_lt, q_le, q_eq, qz0, qz1, qz2, qz3, if_pos, if_neg, reduceIte, e1, e2])
    (by
      intro f N' hN
      simp only [l_X12_back_16]
      simp (disch := omega) only [qn0, qn1, qn2, qn3, qn4, qn5, qn6, qn7, qn8, qn9, qn10, qn11, qn12, qn13, qn14, qn15, qn16, qn17, qn18, qn24, qn30, qn31, qn32, qn33, qn36, qn38, qn40, qn41, qn42, qn43, qn45, qn47, qn48, qn49, qn50, qn51, qn52, qn53, qn57, qn58, qn59, qn60, qn61, qn62, qn63, qn91, qn93, qn97, qn99, qn100, qn103, qn104, qn112, qn113, qn115, qn116, qn118, qn119, qn121, qn124, qn173, qn177, qn240, qn255, qn295, qn352, qn353, qn533, qn999, qn1000, qn1023, qn6561, qn10000, qn20787, qn1000000, qn252645135, qn858993459, qn1000000000, qn1431655765, q_s1, q_s2, q_s3, q_s4, q_s5, iI_add, iI_sub, iI_mul, iI_neg, q_lt, q_le, q_eq, qz0, qz1, qz2, qz3, if_pos, if_neg, reduceIte])
  have e' : l_X12_back_16 gs_FU (iI 0) (gs_up (gs_up (gs_row M 10 (va_cpy (M 12) (M 10) 0 0 173)) 13 2 (iI 0)) 147 0 (iI 0)) = some (iI 533, N) := e
  have D3 : ma_M (T 7) (ma_t T 9 0) V (gs_up N 147 35 (iI 0)) := by
    refine (D2.t9 (v := 0) (by omega)).st2 w' (fun a b _ h _ => ?_) ?_
    · rw [gs_up_at, gs_up_at, hN, if_neg (fun z : a = 158 ∧ 0 + 0 ≤ b ∧ b < 0 + 533 => h z.1)]
    · intro k hk
      rw [ma_row_ne _ _ _ _ _ (by decide), hN, if_pos ⟨rfl, by omega, by omega⟩, show 0 + (k - 0) = k by omega]
      exact D2.ig c k hk
  have e2 := c_now0 C1.st
  have e3 := m_c48 D3.st
  refine ⟨iI (T 7 48), gs_up (gs_row M 10 (va_cpy (M 12) (M 10) 0 0 173)) 13 2 (iI 0), gs_up N 147 35 (iI 0), ?_, ?_, T 7, ma_t T 9 0, V, ⟨hs, w', W.2.2.t (by decide)⟩, C1.lo w' ?_, D3⟩
  · unfold f_X11_back f_X0_forget
    simp (disch := omega) only [qn0, qn1, qn2, qn3, qn4, qn5, qn6, qn7, qn8, qn9, qn10, qn11, qn12, qn13, qn14, qn15, qn16, qn17, qn18, qn24, qn30, qn31, qn32, qn33, qn36, qn38, qn40, qn41, qn42, qn43, qn45, qn47, qn48, qn49, qn50, qn51, qn52, qn53, qn57, qn58, qn59, qn60, qn61, qn62, qn63, qn91, qn93, qn97, qn99, qn100, qn103, qn104, qn112, qn113, qn115, qn116, qn118, qn119, qn121, qn124, qn173, qn177, qn240, qn255, qn295, qn352, qn353, qn533, qn999, qn1000, qn1023, qn6561, qn10000, qn20787, qn1000000, qn252645135, qn858993459, qn1000000000, qn1431655765, qj0, qj1, qj2, qj4, qj7, qj8, qj9, qj10, qj30, qj100, qj1000, qj1000000, qj1000000000, qj1442695040888963407, qj6364136223846793005, q_s1, q_s2, q_s3, q_s4, q_s5, iI_add, iI_sub, iI_mul, iI_neg, q_lt, q_le, q_eq, jI_add, jI_sub, jI_mul, jI_neg, jI_of, jI_to, j_le0, j_ge0, j_lt0, j_gt0, j_eq0, q_dvl, qz0, qz1, qz2, qz3, if_pos, if_neg, reduceIte, e0, c_cpyF, Nat.reduceAdd, e2]
  · unfold f_X12_back
    simp (disch := omega) only [qn0, qn1, qn2, qn3, qn4, qn5, qn6, qn7, qn8, qn9, qn10, qn11, qn12, qn13, qn14, qn15, qn16, qn17, qn18, qn24, qn30, qn31, qn32, qn33, qn36, qn38, qn40, qn41, qn42, qn43, qn45, qn47, qn48, qn49, qn50, qn51, qn52, qn53, qn57, qn58, qn59, qn60, qn61, qn62, qn63, qn91, qn93, qn97, qn99, qn100, qn103, qn104, qn112, qn113, qn115, qn116, qn118, qn119, qn121, qn124, qn173, qn177, qn240, qn255, qn295, qn352, qn353, qn533, qn999, qn1000, qn1023, qn6561, qn10000, qn20787, qn1000000, qn252645135, qn858993459, qn1000000000, qn1431655765, qj0, qj1, qj2, qj4, qj7, qj8, qj9, qj10, qj30, qj100, qj1000, qj1000000, qj1000000000, qj1442695040888963407, qj6364136223846793005, q_s1, q_s2, q_s3, q_s4, q_s5, iI_add, iI_sub, iI_mul, iI_neg, q_lt, q_le, q_eq, jI_add, jI_sub, jI_mul, jI_neg, jI_of, jI_to, j_le0, j_ge0, j_lt0, j_gt0, j_eq0, q_dvl, qz0, qz1, qz2, qz3, if_pos, if_neg, reduceIte, e0', e', e3]
  · intro a b h1 h2
    rw [ma_cell_ne _ _ _ _ _ _ (by omega), hN, if_neg (fun z => by omega), ma_cell_ne _ _ _ _ _ _ (by omega)]
