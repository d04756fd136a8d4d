/-! what a change of one side leaves to the other; small changes -/
section Frame
variable {s s' : Nat → Int} {T T' : Nat → Nat → Int} {V V' : ma_V} {M M1 M2 : gs_M}
/-- the class's side alone may have changed, or scratch -/
def iv_hi (M M1 : gs_M) : Prop := ∀ a b, 147 ≤ a → iv_scr a b = false → M1 a b = M a b
/-- the model's side alone may have changed, or scratch -/
def iv_lo (M M1 : gs_M) : Prop := ∀ a b, a ≤ 146 → iv_scr a b = false → M1 a b = M a b
theorem iv_ag.hi (g : iv_ag M M1) : iv_hi M M1 := fun a b _ e => g a b (iv_fin_scr e)
theorem iv_ag.lo (g : iv_ag M M1) : iv_lo M M1 := fun a b _ e => g a b (iv_fin_scr e)
theorem iv_hi.tr (g : iv_hi M M1) (h : iv_hi M1 M2) : iv_hi M M2 := fun a b c e => (h a b c e).trans (g a b c e)
theorem iv_lo.tr (g : iv_lo M M1) (h : iv_lo M1 M2) : iv_lo M M2 := fun a b c e => (h a b c e).trans (g a b c e)
theorem iv_hi.rf : iv_hi M M := fun _ _ _ _ => rfl
theorem iv_lo.rf : iv_lo M M := fun _ _ _ _ => rfl
theorem iv_hi.up (g : iv_hi M M1) {i k : Nat} (v : Int32) (hi : i < 147) : iv_hi M (gs_up M1 i k v) := fun a b c e => by
  rw [ma_cell_ne _ _ _ _ _ _ (by omega)]
  exact g a b c e
theorem iv_lo.up (g : iv_lo M M1) {i k : Nat} (v : Int32) (hi : 147 ≤ i) : iv_lo M (gs_up M1 i k v) := fun a b c e => by
  rw [ma_cell_ne _ _ _ _ _ _ (by omega)]
  exact g a b c e
theorem iv_hi.row (g : iv_hi M M1) {i : Nat} (f : Nat → Int32) (hi : i < 147) : iv_hi M (gs_row M1 i f) := fun a b c e => by
  rw [ma_rowr_ne _ _ _ _ (by omega)]
  exact g a b c e
/-- the class's pieces stand by its own cells -/
theorem ma_lC.cg {k : Nat} (h : ma_lC V k M) (e : ∀ r, 108 + 6 * k ≤ r → r < 113 + 6 * k → M1 r = M r) : ma_lC V k M1 := by
  intro kd g0 c0 w0 t0 h0 a0 e1 e2 M2 e3
  exact h kd g0 c0 w0 t0 h0 a0 e1 e2 M2 (fun r r1 r2 => (e3 r r1 r2).trans (e r r1 r2))
theorem ma_lM.cg {k : Nat} (h : ma_lM V k M) (e : M1 149 = M 149) (e' : M1 150 = M 150) : ma_lM V k M1 := by
  intro kd g0 c0 w0 t0 h0 a0 e1 e2 M2 e3
  rw [e']
  exact h kd g0 c0 w0 t0 h0 a0 e1 e2 M2 (fun i i1 i2 => (e3 i i1 i2).trans (by rw [e]))
theorem iv_lo.at (g : iv_lo M M1) (i : Nat) (hi : i ≤ 146) (hs : ∀ b, iv_scr i b = false) : M1 i = M i := funext fun b => g i b hi (hs b)
theorem iv_hi.at (g : iv_hi M M1) (i : Nat) (hi : 147 ≤ i) (hs : ∀ b, iv_scr i b = false) : M1 i = M i := funext fun b => g i b hi (hs b)
/-- all but the state's row -/
theorem ma_C.st2 (w : ma_wT T) (h : ma_C s T V M) (g : ∀ a b, a ≤ 146 → a ≠ 10 → iv_scr a b = false → M1 a b = M a b) (hs : ma_sC s' (M1 10)) : ma_C s' T V M1 := by
  obtain ⟨h1, h2, h3, h4, h5, h6, h7, h8, h9, h10, h11, h12, h13, h14, h15, h16, ⟨nx, h17, h18, h19⟩, h20, h21⟩ := h
  obtain ⟨-, -, -, -, -, -, -, w8, -⟩ := w
  have G : ∀ i, i ≤ 146 → i ≠ 10 → (∀ b, iv_scr i b = false) → M1 i = M i := fun i hi h10 hs => funext fun b => g i b hi h10 (hs b)
  refine ⟨?_, ?_, ?_, ?_, ?_, ?_, ?_, ?_, ?_, ?_, ?_, ?_, ?_, ?_, ?_, ?_, ⟨nx, h17, ?_, ?_⟩, ?_, hs⟩
  · rw [G 3 (by decide) (by decide) (fun _ => rfl)]; exact h1
  · rw [G 4 (by decide) (by decide) (fun _ => rfl)]; exact h2
  · rw [G 5 (by decide) (by decide) (fun _ => rfl)]; exact h3
  · rw [G 0 (by decide) (by decide) (fun _ => rfl)]; exact h4
  · rw [G 105 (by decide) (by decide) (fun _ => rfl)]; exact h5
  · rw [G 95 (by decide) (by decide) (fun _ => rfl)]; exact h6
  · rw [G 105 (by decide) (by decide) (fun _ => rfl)]; exact h7
  · rw [G 95 (by decide) (by decide) (fun _ => rfl)]; exact h8
  · rw [g 134 7 (by decide) (by decide) rfl]; exact h9
  · rw [g 1 1 (by decide) (by decide) rfl]; exact h10
  · rw [G 0 (by decide) (by decide) (fun _ => rfl)]; exact h11
  · rw [G 13 (by decide) (by decide) (fun _ => rfl)]; exact h12
  · rw [G 2 (by decide) (by decide) (fun _ => rfl)]; exact h13
  · rw [G 96 (by decide) (by decide) (fun _ => rfl)]; exact h14
  · rw [G 135 (by decide) (by decide) (fun _ => rfl), G 136 (by decide) (by decide) (fun _ => rfl), G 137 (by decide) (by decide) (fun _ => rfl)]; exact h15
  · rw [G 12 (by decide) (by decide) (fun _ => rfl)]; exact h16
  · rw [G 13 (by decide) (by decide) (fun _ => rfl)]; exact h18
  · intro t ht
    rw [G _ (by omega) (by omega) (iv_scr_act (Nat.mod_lt _ (by decide)))]
    exact h19 t ht
  · intro k hk
    exact (h20 k hk).cg (fun r r1 r2 => G r (by omega) (by omega) (iv_scr_law (by omega) r1 r2))
theorem ma_C.lo (w : ma_wT T) (h : ma_C s T V M) (g : iv_lo M M1) : ma_C s T V M1 := by
  refine h.st2 w (fun a b c _ e => g a b c e) ?_
  rw [g.at 10 (by decide) (fun _ => rfl)]
  exact h.st
theorem ma_M.st2 (w : ma_wT T) (h : ma_M s T V M) (g : ∀ a b, 147 ≤ a → a ≠ 158 → iv_scr a b = false → M1 a b = M a b) (hs : ma_sM s' (M1 158)) : ma_M s' T V M1 := by
  obtain ⟨h1, h2, h3, h4, h5, h6, h7, h8, h9, h10, h11, h12, h13, h14, h15, h16, h17, h18, h19⟩ := h
  obtain ⟨-, -, -, -, -, -, -, w8, -, w10, -⟩ := w
  have G : ∀ i, 147 ≤ i → i ≠ 158 → (∀ b, iv_scr i b = false) → M1 i = M i := fun i hi h10 hs => funext fun b => g i b hi h10 (hs b)
  refine ⟨?_, ?_, ?_, ?_, ?_, ?_, ?_, ?_, ?_, ?_, ?_, ?_, ?_, ?_, ?_, ?_, ?_, ?_, hs⟩
  · rw [g 147 24 (by decide) (by decide) rfl]; exact h1
  · rw [G 152 (by decide) (by decide) (fun _ => rfl)]; exact h2
  · rw [G 154 (by decide) (by decide) (fun _ => rfl)]; exact h3
  · rw [g 147 31 (by decide) (by decide) rfl]; exact h4
  · rw [g 147 29 (by decide) (by decide) rfl]; exact h5
  · rw [g 147 30 (by decide) (by decide) rfl]; exact h6
  · rw [g 147 7 (by decide) (by decide) rfl]; exact h7
  · rw [g 147 26 (by decide) (by decide) rfl]; exact h8
  · rw [g 147 40 (by decide) (by decide) rfl]; exact h9
  · rw [g 147 6 (by decide) (by decide) rfl]; exact h10
  · rw [g 147 46 (by decide) (by decide) rfl]; exact h11
  · rw [g 147 35 (by decide) (by decide) rfl]; exact h12
  · rw [G 148 (by decide) (by decide) (fun _ => rfl)]; exact h13
  · intro w hw
    obtain ⟨n, g1, g2, g3⟩ := h14 w hw
    refine ⟨n, g1, by rw [g 157 w (by decide) (by decide) (iv_scr_157 (by omega))]; exact g2, fun q hq => ?_⟩
    rw [g 156 (9 * w + q) (by decide) (by decide) (iv_scr_156 (by omega))]
    exact g3 q hq
  · rw [G 162 (by decide) (by decide) (fun _ => rfl), G 163 (by decide) (by decide) (fun _ => rfl), G 164 (by decide) (by decide) (fun _ => rfl)]; exact h15
  · rw [G 169 (by decide) (by decide) (fun _ => rfl)]; exact h16
  · rw [G 160 (by decide) (by decide) (fun _ => rfl)]; exact h17
  · intro k hk
    exact (h18 k hk).cg (G 149 (by decide) (by decide) (fun _ => rfl)) (G 150 (by decide) (by decide) (fun _ => rfl))
theorem ma_M.hi (w : ma_wT T) (h : ma_M s T V M) (g : iv_hi M M1) : ma_M s T V M1 := by
  refine h.st2 w (fun a b c _ e => g a b c e) ?_
  rw [g.at 158 (by decide) (fun _ => rfl)]
  exact h.st
/-- one number of T 3 -/
def ma_t (T : Nat → Nat → Int) (b : Nat) (v : Int) : Nat → Nat → Int := fun x y => if x = 3 ∧ y = b then v else T x y
theorem ma_t_r {b : Nat} {v : Int} {x : Nat} (h : x ≠ 3) : ma_t T b v x = T x := by
  funext y
  unfold ma_t
  rw [if_neg (fun z => h z.1)]
theorem ma_C.t1 (C : ma_C s T V M) (v : Int) : ma_C s (ma_t T 1 v) V (gs_up M 0 15 (iI v)) := by
  obtain ⟨h1, h2, h3, h4, h5, h6, h7, h8, h9, h10, h11, h12, h13, h14, h15, h16, ⟨nx, h17, h18, h19⟩, h20, h21⟩ := C
  refine ⟨h1, h2, h3, rfl, h5, h6, h7, h8, h9, h10, h11, h12, h13, h14, h15, h16, ⟨nx, h17, h18, fun t ht => ?_⟩, fun k hk => ?_, h21⟩
  · rw [ma_t_r (by omega), ma_row_ne _ _ _ _ _ (by omega)]; exact h19 t ht
  · exact (h20 k hk).cg (fun r h1 h2 => ma_row_ne _ _ _ _ _ (by omega))
theorem ma_M.t1 (C : ma_M s T V M) (v : Int) : ma_M s (ma_t T 1 v) V (gs_up M 147 31 (iI v)) := by
  obtain ⟨h1, h2, h3, h4, h5, h6, h7, h8, h9, h10, h11, h12, h13, h14, h15, h16, h17, h18, h19⟩ := C
  refine ⟨h1, h2, h3, rfl, h5, h6, h7, h8, h9, h10, h11, h12, h13, h14, h15, h16, fun t ht => ?_, fun k hk => ?_, h19⟩
  · rw [ma_t_r (by omega)]; exact h17 t ht
  · exact (h18 k hk).cg rfl rfl
theorem ma_C.t2 (C : ma_C s T V M) (v : Int) : ma_C s (ma_t T 2 v) V (gs_up M 105 5 (iI v)) := by
  obtain ⟨h1, h2, h3, h4, h5, h6, h7, h8, h9, h10, h11, h12, h13, h14, h15, h16, ⟨nx, h17, h18, h19⟩, h20, h21⟩ := C
  refine ⟨h1, h2, h3, h4, rfl, h6, h7, h8, h9, h10, h11, h12, h13, h14, h15, h16, ⟨nx, h17, h18, fun t ht => ?_⟩, fun k hk => ?_, h21⟩
  · rw [ma_t_r (by omega), ma_row_ne _ _ _ _ _ (by omega)]; exact h19 t ht
  · exact (h20 k hk).cg (fun r h1 h2 => ma_row_ne _ _ _ _ _ (by omega))
theorem ma_M.t2 (C : ma_M s T V M) (v : Int) : ma_M s (ma_t T 2 v) V (gs_up M 147 29 (iI v)) := by
  obtain ⟨h1, h2, h3, h4, h5, h6, h7, h8, h9, h10, h11, h12, h13, h14, h15, h16, h17, h18, h19⟩ := C
  refine ⟨h1, h2, h3, h4, rfl, h6, h7, h8, h9, h10, h11, h12, h13, h14, h15, h16, fun t ht => ?_, fun k hk => ?_, h19⟩
  · rw [ma_t_r (by omega)]; exact h17 t ht
  · exact (h18 k hk).cg rfl rfl
theorem ma_C.t3 (C : ma_C s T V M) (v : Int) : ma_C s (ma_t T 3 v) V (gs_up M 95 3 (iI v)) := by
  obtain ⟨h1, h2, h3, h4, h5, h6, h7, h8, h9, h10, h11, h12, h13, h14, h15, h16, ⟨nx, h17, h18, h19⟩, h20, h21⟩ := C
  refine ⟨h1, h2, h3, h4, h5, rfl, h7, h8, h9, h10, h11, h12, h13, h14, h15, h16, ⟨nx, h17, h18, fun t ht => ?_⟩, fun k hk => ?_, h21⟩
  · rw [ma_t_r (by omega), ma_row_ne _ _ _ _ _ (by omega)]; exact h19 t ht
  · exact (h20 k hk).cg (fun r h1 h2 => ma_row_ne _ _ _ _ _ (by omega))
theorem ma_M.t3 (C : ma_M s T V M) (v : Int) : ma_M s (ma_t T 3 v) V (gs_up M 147 30 (iI v)) := by
  obtain ⟨h1, h2, h3, h4, h5, h6, h7, h8, h9, h10, h11, h12, h13, h14, h15, h16, h17, h18, h19⟩ := C
  refine ⟨h1, h2, h3, h4, h5, rfl, h7, h8, h9, h10, h11, h12, h13, h14, h15, h16, fun t ht => ?_, fun k hk => ?_, h19⟩
  · rw [ma_t_r (by omega)]; exact h17 t ht
  · exact (h18 k hk).cg rfl rfl
theorem ma_C.t7 (C : ma_C s T V M) (v : Int) (hv : v ≤ T 3 7) : ma_C s (ma_t T 7 v) V (gs_up M 1 1 (iI v)) := by
  obtain ⟨h1, h2, h3, h4, h5, h6, h7, h8, h9, h10, h11, h12, h13, h14, h15, h16, ⟨nx, h17, h18, h19⟩, h20, h21⟩ := C
  refine ⟨h1, h2, h3, h4, h5, h6, h7, h8, h9, rfl, h11, h12, fun i hi => h13 i (Int.lt_of_lt_of_le hi hv), h14, h15, h16, ⟨nx, h17, h18, fun t ht => ?_⟩, fun k hk => ?_, h21⟩
  · rw [ma_t_r (by omega), ma_row_ne _ _ _ _ _ (by omega)]; exact h19 t ht
  · exact (h20 k hk).cg (fun r h1 h2 => ma_row_ne _ _ _ _ _ (by omega))
theorem ma_M.t7 (C : ma_M s T V M) (v : Int) (hv : v ≤ T 3 7) : ma_M s (ma_t T 7 v) V (gs_up M 147 6 (iI v)) := by
  obtain ⟨h1, h2, h3, h4, h5, h6, h7, h8, h9, h10, h11, h12, h13, h14, h15, h16, h17, h18, h19⟩ := C
  refine ⟨h1, h2, h3, h4, h5, h6, h7, h8, h9, rfl, h11, h12, fun i hi => h13 i (Int.lt_of_lt_of_le hi hv), h14, h15, h16, fun t ht => ?_, fun k hk => ?_, h19⟩
  · rw [ma_t_r (by omega)]; exact h17 t ht
  · exact (h18 k hk).cg rfl rfl
theorem ma_wT.t1 (w : ma_wT T) {v : Int} (hv : 0 ≤ v ∧ v ≤ 9) : ma_wT (ma_t T 1 v) := by
  obtain ⟨h1, h2, h3, h4, h5, h6, h7, h8, h9, h10, h11, h12, h13, h14, h15, h16, h17, h18, h19⟩ := w
  refine ⟨h1, h2, h3, h4, h5, hv, h7, h8, h9, h10, h11, h12, h13, h14, h15, h16, h17, h18, fun t ht => ?_⟩
  rw [ma_t_r (by omega)]; exact h19 t ht
theorem ma_wT.t2 (w : ma_wT T) {v : Int} (hv : -1 ≤ v ∧ v < T 3 4) : ma_wT (ma_t T 2 v) := by
  obtain ⟨h1, h2, h3, h4, h5, h6, h7, h8, h9, h10, h11, h12, h13, h14, h15, h16, h17, h18, h19⟩ := w
  refine ⟨h1, h2, h3, h4, h5, h6, hv, h8, h9, h10, h11, h12, h13, h14, h15, h16, h17, h18, fun t ht => ?_⟩
  rw [ma_t_r (by omega)]; exact h19 t ht
theorem ma_wT.t3 (w : ma_wT T) {v : Int} (hv : -1 ≤ v ∧ v < T 3 5) : ma_wT (ma_t T 3 v) := by
  obtain ⟨h1, h2, h3, h4, h5, h6, h7, h8, h9, h10, h11, h12, h13, h14, h15, h16, h17, h18, h19⟩ := w
  refine ⟨h1, h2, h3, h4, h5, h6, h7, h8, hv, h10, h11, h12, h13, h14, h15, h16, h17, h18, fun t ht => ?_⟩
  rw [ma_t_r (by omega)]; exact h19 t ht
theorem ma_wT.t7 (w : ma_wT T) {v : Int} (hv : 0 ≤ v ∧ v ≤ T 3 7) : ma_wT (ma_t T 7 v) := by
  obtain ⟨h1, h2, h3, h4, h5, h6, h7, h8, h9, h10, h11, h12, h13, h14, h15, h16, h17, h18, h19⟩ := w
  refine ⟨h1, h2, h3, h4, h5, h6, h7, h8, h9, h10, h11, ⟨hv.1, Int.le_trans hv.2 h12.2⟩, h13, h14, fun i hi => h15 i (Int.lt_of_lt_of_le hi hv.2), h16, h17, h18, fun t ht => ?_⟩
  rw [ma_t_r (by omega)]; exact h19 t ht
theorem ma_wV.t {b : Nat} {v : Int} (h : ma_wV T V) (hb : b ≠ 4) : ma_wV (ma_t T b v) V := by
  intro k kd g c w t h0 a hk
  unfold ma_t at hk
  rw [if_neg (by omega)] at hk
  exact h k kd g c w t h0 a hk
end Frame
theorem s_crimes : gl_S_crimes ma_Inv := by
  intro M L hI x1
  have hI0 := hI
  obtain ⟨s, T, V, W, C, D⟩ := hI
  have w := W.2.1
  obtain ⟨f1, f2, f3, f4, f5, f6, f7, f8, f9, f10, f11, f12, f13, f14, -⟩ := W.2.1
  have D1 := ma_D0 D w (iI 0)
  obtain ⟨z, z1, z2, rfl⟩ := q_any x1
  have e1 := C.cr
  have e2 := D1.cr
  rcases (by omega : z < 0 ∨ (0 ≤ z ∧ 9 < z) ∨ z = T 3 1 ∨ (0 ≤ z ∧ z ≤ 9 ∧ z ≠ T 3 1)) with c | c | c | c
  · refine ⟨iI 0, M, gs_up M 147 0 (iI 0), ?_, ?_, hI0.ag (ma_g0 iv_ag.rf _)⟩
    · unfold f_X11_crimes
      simp (disch := omega) only [qn0, qn1, qn2, qn3, qn4, qn5, qn6, qn7, qn8, qn9, qn10, qn11, qn12, qn13, qn14, qn15, qn16, qn17, qn18, qn24, qn30, qn31, qn32, qn33, qn36, qn38, qn40, qn41, qn42, qn43, qn45, qn47, qn48, qn49, qn50, qn51, qn52, qn53, qn57, qn58, qn59, qn60, qn61, qn62, qn63, qn91, qn93, qn97, qn99, qn100, qn103, qn104, qn112, qn113, qn115, qn116, qn118, qn119, qn121, qn124, qn173, qn177, qn240, qn255, qn295, qn352, qn353, qn533, qn999, qn1000, qn1023, qn6561, qn10000, qn20787, qn1000000, qn252645135, qn858993459, qn1000000000, qn1431655765, qj0, qj1, qj2, qj4, qj7, qj8, qj9, qj10, qj30, qj100, qj1000, qj1000000, qj1000000000, qj1442695040888963407, qj6364136223846793005, q_s1, q_s2, q_s3, q_s4, q_s5, iI_add, iI_sub, iI_mul, iI_neg, q_lt, q_le, q_eq, jI_add, jI_sub, jI_mul, jI_neg, jI_of, jI_to, j_le0, j_ge0, j_lt0, j_gt0, j_eq0, q_dvl, qz0, qz1, qz2, qz3, if_pos, if_neg, reduceIte, e1]
    · unfold f_X12_crimes
      simp (disch := omega) only [qn0, qn1, qn2, qn3, qn4, qn5, qn6, qn7, qn8, qn9, qn10, qn11, qn12, qn13, qn14, qn15, qn16, qn17, qn18, qn24, qn30, qn31, qn32, qn33, qn36, qn38, qn40, qn41, qn42, qn43, qn45, qn47, qn48, qn49, qn50, qn51, qn52, qn53, qn57, qn58, qn59, qn60, qn61, qn62, qn63, qn91, qn93, qn97, qn99, qn100, qn103, qn104, qn112, qn113, qn115, qn116, qn118, qn119, qn121, qn124, qn173, qn177, qn240, qn255, qn295, qn352, qn353, qn533, qn999, qn1000, qn1023, qn6561, qn10000, qn20787, qn1000000, qn252645135, qn858993459, qn1000000000, qn1431655765, qj0, qj1, qj2, qj4, qj7, qj8, qj9, qj10, qj30, qj100, qj1000, qj1000000, qj1000000000, qj1442695040888963407, qj6364136223846793005, q_s1, q_s2, q_s3, q_s4, q_s5, iI_add, iI_sub, iI_mul, iI_neg, q_lt, q_le, q_eq, jI_add, jI_sub, jI_mul, jI_neg, jI_of, jI_to, j_le0, j_ge0, j_lt0, j_gt0, j_eq0, q_dvl, qz0, qz1, qz2, qz3, if_pos, if_neg, reduceIte, m_isOut]
  · refine ⟨iI 0, M, gs_up M 147 0 (iI 0), ?_, ?_, hI0.ag (ma_g0 iv_ag.rf _)⟩
    · unfold f_X11_crimes
      simp (disch := omega) only [qn0, qn1, qn2, qn3, qn4, qn5, qn6, qn7, qn8, qn9, qn10, qn11, qn12, qn13, qn14, qn15, qn16, qn17, qn18, qn24, qn30, qn31, qn32, qn33, qn36, qn38, qn40, qn41, qn42, qn43, qn45, qn47, qn48, qn49, qn50, qn51, qn52, qn53, qn57, qn58, qn59, qn60, qn61, qn62, qn63, qn91, qn93, qn97, qn99, qn100, qn103, qn104, qn112, qn113, qn115, qn116, qn118, qn119, qn121, qn124, qn173, qn177, qn240, qn255, qn295, qn352, qn353, qn533, qn999, qn1000, qn1023, qn6561, qn10000, qn20787, qn1000000, qn252645135, qn858993459, qn1000000000, qn1431655765, qj0, qj1, qj2, qj4, qj7, qj8, qj9, qj10, qj30, qj100, qj1000, qj1000000, qj1000000000, qj1442695040888963407, qj6364136223846793005, q_s1, q_s2, q_s3, q_s4, q_s5, iI_add, iI_sub, iI_mul, iI_neg, q_lt, q_le, q_eq, jI_add, jI_sub, jI_mul, jI_neg, jI_of, jI_to, j_le0, j_ge0, j_lt0, j_gt0, j_eq0, q_dvl, qz0, qz1, qz2, qz3, if_pos, if_neg, reduceIte, e1]
    · unfold f_X12_crimes
      simp (disch := omega) only [qn0, qn1, qn2, qn3, qn4, qn5, qn6, qn7, qn8, qn9, qn10, qn11, qn12, qn13, qn14, qn15, qn16, qn17, qn18, qn24, qn30, qn31, qn32, qn33, qn36, qn38, qn40, qn41, qn42, qn43, qn45, qn47, qn48, qn49, qn50, qn51, qn52, qn53, qn57, qn58, qn59, qn60, qn61, qn62, qn63, qn91, qn93, qn97, qn99, qn100, qn103, qn104, qn112, qn113, qn115, qn116, qn118, qn119, qn121, qn124, qn173, qn177, qn240, qn255, qn295, qn352, qn353, qn533, qn999, qn1000, qn1023, qn6561, qn10000, qn20787, qn1000000, qn252645135, qn858993459, qn1000000000, qn1431655765, qj0, qj1, qj2, qj4, qj7, qj8, qj9, qj10, qj30, qj100, qj1000, qj1000000, qj1000000000, qj1442695040888963407, qj6364136223846793005, q_s1, q_s2, q_s3, q_s4, q_s5, iI_add, iI_sub, iI_mul, iI_neg, q_lt, q_le, q_eq, jI_add, jI_sub, jI_mul, jI_neg, jI_of, jI_to, j_le0, j_ge0, j_lt0, j_gt0, j_eq0, q_dvl, qz0, qz1, qz2, qz3, if_pos, if_neg, reduceIte, m_isOut]
  · refine ⟨iI 0, M, gs_up M 147 0 (iI 0), ?_, ?_, hI0.ag (ma_g0 iv_ag.rf _)⟩
    · unfold f_X11_crimes
      simp (disch := omega) only [qn0, qn1, qn2, qn3, qn4, qn5, qn6, qn7, qn8, qn9, qn10, qn11, qn12, qn13, qn14, qn15, qn16, qn17, qn18, qn24, qn30, qn31, qn32, qn33, qn36, qn38, qn40, qn41, qn42, qn43, qn45, qn47, qn48, qn49, qn50, qn51, qn52, qn53, qn57, qn58, qn59, qn60, qn61, qn62, qn63, qn91, qn93, qn97, qn99, qn100, qn103, qn104, qn112, qn113, qn115, qn116, qn118, qn119, qn121, qn124, qn173, qn177, qn240, qn255, qn295, qn352, qn353, qn533, qn999, qn1000, qn1023, qn6561, qn10000, qn20787, qn1000000, qn252645135, qn858993459, qn1000000000, qn1431655765, qj0, qj1, qj2, qj4, qj7, qj8, qj9, qj10, qj30, qj100, qj1000, qj1000000, qj1000000000, qj1442695040888963407, qj6364136223846793005, q_s1, q_s2, q_s3, q_s4, q_s5, iI_add, iI_sub, iI_mul, iI_neg, q_lt, q_le, q_eq, jI_add, jI_sub, jI_mul, jI_neg, jI_of, jI_to, j_le0, j_ge0, j_lt0, j_gt0, j_eq0, q_dvl, qz0, qz1, qz2, qz3, if_pos, if_neg, reduceIte, e1]
    · unfold f_X12_crimes
      simp (disch := omega) only [qn0, qn1, qn2, qn3, qn4, qn5, qn6, qn7, qn8, qn9, qn10, qn11, qn12, qn13, qn14, qn15, qn16, qn17, qn18, qn24, qn30, qn31, qn32, qn33, qn36, qn38, qn40, qn41, qn42, qn43, qn45, qn47, qn48, qn49, qn50, qn51, qn52, qn53, qn57, qn58, qn59, qn60, qn61, qn62, qn63, qn91, qn93, qn97, qn99, qn100, qn103, qn104, qn112, qn113, qn115, qn116, qn118, qn119, qn121, qn124, qn173, qn177, qn240, qn255, qn295, qn352, qn353, qn533, qn999, qn1000, qn1023, qn6561, qn10000, qn20787, qn1000000, qn252645135, qn858993459, qn1000000000, qn1431655765, qj0, qj1, qj2, qj4, qj7, qj8, qj9, qj10, qj30, qj100, qj1000, qj1000000, qj1000000000, qj1442695040888963407, qj6364136223846793005, q_s1, q_s2, q_s3, q_s4, q_s5, iI_add, iI_sub, iI_mul, iI_neg, q_lt, q_le, q_eq, jI_add, jI_sub, jI_mul, jI_neg, jI_of, jI_to, j_le0, j_ge0, j_lt0, j_gt0, j_eq0, q_dvl, qz0, qz1, qz2, qz3, if_pos, if_neg, reduceIte, m_isIn, e2]
  · have D2 := ma_D0 (D.hi w (iv_hi.rf.up (i := 0) (k := 15) (iI z) (by decide))) w (iI 0)
    have e3 := D2.cr
    refine ⟨iI 1, gs_up M 0 15 (iI z), gs_up (gs_up (gs_up M 0 15 (iI z)) 147 0 (iI 0)) 147 31 (iI z), ?_, ?_, s, ma_t T 1 z, V, ⟨W.1, w.t1 (by omega), W.2.2.t (by decide)⟩, ?_, ?_⟩
    · unfold f_X11_crimes
      simp (disch := omega) only [qn0, qn1, qn2, qn3, qn4, qn5, qn6, qn7, qn8, qn9, qn10, qn11, qn12, qn13, qn14, qn15, qn16, qn17, qn18, qn24, qn30, qn31, qn32, qn33, qn36, qn38, qn40, qn41, qn42, qn43, qn45, qn47, qn48, qn49, qn50, qn51, qn52, qn53, qn57, qn58, qn59, qn60, qn61, qn62, qn63, qn91, qn93, qn97, qn99, qn100, qn103, qn104, qn112, qn113, qn115, qn116, qn118, qn119, qn121, qn124, qn173, qn177, qn240, qn255, qn295, qn352, qn353, qn533, qn999, qn1000, qn1023, qn6561, qn10000, qn20787, qn1000000, qn252645135, qn858993459, qn1000000000, qn1431655765, qj0, qj1, qj2, qj4, qj7, qj8, qj9, qj10, qj30, qj100, qj1000, qj1000000, qj1000000000, qj1442695040888963407, qj6364136223846793005, q_s1, q_s2, q_s3, q_s4, q_s5, iI_add, iI_sub, iI_mul, iI_neg, q_lt, q_le, q_eq, jI_add, jI_sub, jI_mul, jI_neg, jI_of, jI_to, j_le0, j_ge0, j_lt0, j_gt0, j_eq0, q_dvl, qz0, qz1, qz2, qz3, if_pos, if_neg, reduceIte, e1]
    · unfold f_X12_crimes
      simp (disch := omega) only [qn0, qn1, qn2, qn3, qn4, qn5, qn6, qn7, qn8, qn9, qn10, qn11, qn12, qn13, qn14, qn15, qn16, qn17, qn18, qn24, qn30, qn31, qn32, qn33, qn36, qn38, qn40, qn41, qn42, qn43, qn45, qn47, qn48, qn49, qn50, qn51, qn52, qn53, qn57, qn58, qn59, qn60, qn61, qn62, qn63, qn91, qn93, qn97, qn99, qn100, qn103, qn104, qn112, qn113, qn115, qn116, qn118, qn119, qn121, qn124, qn173, qn177, qn240, qn255, qn295, qn352, qn353, qn533, qn999, qn1000, qn1023, qn6561, qn10000, qn20787, qn1000000, qn252645135, qn858993459, qn1000000000, qn1431655765, qj0, qj1, qj2, qj4, qj7, qj8, qj9, qj10, qj30, qj100, qj1000, qj1000000, qj1000000000, qj1442695040888963407, qj6364136223846793005, q_s1, q_s2, q_s3, q_s4, q_s5, iI_add, iI_sub, iI_mul, iI_neg, q_lt, q_le, q_eq, jI_add, jI_sub, jI_mul, jI_neg, jI_of, jI_to, j_le0, j_ge0, j_lt0, j_gt0, j_eq0, q_dvl, qz0, qz1, qz2, qz3, if_pos, if_neg, reduceIte, m_isIn, e3]
    · exact (C.t1 z).lo (w.t1 (by omega)) ((iv_lo.rf.up _ (by decide)).up _ (by decide))
    · exact D2.t1 z
theorem s_law : gl_S_law ma_Inv := by
  intro M L hI x1
  have hI0 := hI
  obtain ⟨s, T, V, W, C, D⟩ := hI
  have w := W.2.1
  obtain ⟨f1, f2, f3, f4, f5, f6, f7, f8, f9, f10, f11, f12, f13, f14, -⟩ := W.2.1
  have D1 := ma_D0 D w (iI 0)
  obtain ⟨z, z1, z2, rfl⟩ := q_any x1
  have e1 := C.lm
  have e2 := D1.lm
  have hgo : -1 ≤ z ∧ z < T 3 4 → ma_Inv (gs_up (gs_up (gs_up M 105 5 (iI z)) 147 0 (iI 0)) 147 29 (iI z)) L := fun hz =>
    have D2 := ma_D0 (D.hi w (iv_hi.rf.up (i := 105) (k := 5) (iI z) (by decide))) w (iI 0)
    ⟨s, ma_t T 2 z, V, ⟨W.1, w.t2 hz, W.2.2.t (by decide)⟩, (C.t2 z).lo (w.t2 hz) ((iv_lo.rf.up _ (by decide)).up _ (by decide)), D2.t2 z⟩
  rcases (by omega : z < -1 ∨ (T 3 4 ≤ z ∧ 0 ≤ z) ∨ z = -1 ∨ (0 ≤ z ∧ z < T 3 4)) with c | c | c | c
  · have e3 : f_X4_has M (iI z) = some (iI 0) := by
      unfold f_X4_has
      simp (disch := omega) only [qn0, qn1, qn2, qn3, qn4, qn5, qn6, qn7, qn8, qn9, qn10, qn11, qn12, qn13, qn14, qn15, qn16, qn17, qn18, qn24, qn30, qn31, qn32, qn33, qn36, qn38, qn40, qn41, qn42, qn43, qn45, qn47, qn48, qn49, qn50, qn51, qn52, qn53, qn57, qn58, qn59, qn60, qn61, qn62, qn63, qn91, qn93, qn97, qn99, qn100, qn103, qn104, qn112, qn113, qn115, qn116, qn118, qn119, qn121, qn124, qn173, qn177, qn240, qn255, qn295, qn352, qn353, qn533, qn999, qn1000, qn1023, qn6561, qn10000, qn20787, qn1000000, qn252645135, qn858993459, qn1000000000, qn1431655765, q_s1, q_s2, q_s3, q_s4, q_s5, iI_add, iI_sub, iI_mul, iI_neg, q_lt, q_le, q_eq, qz0, qz1, qz2, qz3, if_pos, if_neg, reduceIte, e1]
    refine ⟨iI 0, M, gs_up M 147 0 (iI 0), ?_, ?_, hI0.ag (ma_g0 iv_ag.rf _)⟩
    · unfold f_X11_law f_X4_hold
      simp (disch := omega) only [qn0, qn1, qn2, qn3, qn4, qn5, qn6, qn7, qn8, qn9, qn10, qn11, qn12, qn13, qn14, qn15, qn16, qn17, qn18, qn24, qn30, qn31, qn32, qn33, qn36, qn38, qn40, qn41, qn42, qn43, qn45, qn47, qn48, qn49, qn50, qn51, qn52, qn53, qn57, qn58, qn59, qn60, qn61, qn62, qn63, qn91, qn93, qn97, qn99, qn100, qn103, qn104, qn112, qn113, qn115, qn116, qn118, qn119, qn121, qn124, qn173, qn177, qn240, qn255, qn295, qn352, qn353, qn533, qn999, qn1000, qn1023, qn6561, qn10000, qn20787, qn1000000, qn252645135, qn858993459, qn1000000000, qn1431655765, qj0, qj1, qj2, qj4, qj7, qj8, qj9, qj10, qj30, qj100, qj1000, qj1000000, qj1000000000, qj1442695040888963407, qj6364136223846793005, q_s1, q_s2, q_s3, q_s4, q_s5, iI_add, iI_sub, iI_mul, iI_neg, q_lt, q_le, q_eq, jI_add, jI_sub, jI_mul, jI_neg, jI_of, jI_to, j_le0, j_ge0, j_lt0, j_gt0, j_eq0, q_dvl, qz0, qz1, qz2, qz3, if_pos, if_neg, reduceIte, e3]
    · unfold f_X12_law
      simp (disch := omega) only [qn0, qn1, qn2, qn3, qn4, qn5, qn6, qn7, qn8, qn9, qn10, qn11, qn12, qn13, qn14, qn15, qn16, qn17, qn18, qn24, qn30, qn31, qn32, qn33, qn36, qn38, qn40, qn41, qn42, qn43, qn45, qn47, qn48, qn49, qn50, qn51, qn52, qn53, qn57, qn58, qn59, qn60, qn61, qn62, qn63, qn91, qn93, qn97, qn99, qn100, qn103, qn104, qn112, qn113, qn115, qn116, qn118, qn119, qn121, qn124, qn173, qn177, qn240, qn255, qn295, qn352, qn353, qn533, qn999, qn1000, qn1023, qn6561, qn10000, qn20787, qn1000000, qn252645135, qn858993459, qn1000000000, qn1431655765, qj0, qj1, qj2, qj4, qj7, qj8, qj9, qj10, qj30, qj100, qj1000, qj1000000, qj1000000000, qj1442695040888963407, qj6364136223846793005, q_s1, q_s2, q_s3, q_s4, q_s5, iI_add, iI_sub, iI_mul, iI_neg, q_lt, q_le, q_eq, jI_add, jI_sub, jI_mul, jI_neg, jI_of, jI_to, j_le0, j_ge0, j_lt0, j_gt0, j_eq0, q_dvl, qz0, qz1, qz2, qz3, if_pos, if_neg, reduceIte, e2, m_isOut]
  · have e3 : f_X4_has M (iI z) = some (iI 0) := by
      unfold f_X4_has
      simp (disch := omega) only [qn0, qn1, qn2, qn3, qn4, qn5, qn6, qn7, qn8, qn9, qn10, qn11, qn12, qn13, qn14, qn15, qn16, qn17, qn18, qn24, qn30, qn31, qn32, qn33, qn36, qn38, qn40, qn41, qn42, qn43, qn45, qn47, qn48, qn49, qn50, qn51, qn52, qn53, qn57, qn58, qn59, qn60, qn61, qn62, qn63, qn91, qn93, qn97, qn99, qn100, qn103, qn104, qn112, qn113, qn115, qn116, qn118, qn119, qn121, qn124, qn173, qn177, qn240, qn255, qn295, qn352, qn353, qn533, qn999, qn1000, qn1023, qn6561, qn10000, qn20787, qn1000000, qn252645135, qn858993459, qn1000000000, qn1431655765, q_s1, q_s2, q_s3, q_s4, q_s5, iI_add, iI_sub, iI_mul, iI_neg, q_lt, q_le, q_eq, qz0, qz1, qz2, qz3, if_pos, if_neg, reduceIte, e1]
    refine ⟨iI 0, M, gs_up M 147 0 (iI 0), ?_, ?_, hI0.ag (ma_g0 iv_ag.rf _)⟩
    · unfold f_X11_law f_X4_hold
      simp (disch := omega) only [qn0, qn1, qn2, qn3, qn4, qn5, qn6, qn7, qn8, qn9, qn10, qn11, qn12, qn13, qn14, qn15, qn16, qn17, qn18, qn24, qn30, qn31, qn32, qn33, qn36, qn38, qn40, qn41, qn42, qn43, qn45, qn47, qn48, qn49, qn50, qn51, qn52, qn53, qn57, qn58, qn59, qn60, qn61, qn62, qn63, qn91, qn93, qn97, qn99, qn100, qn103, qn104, qn112, qn113, qn115, qn116, qn118, qn119, qn121, qn124, qn173, qn177, qn240, qn255, qn295, qn352, qn353, qn533, qn999, qn1000, qn1023, qn6561, qn10000, qn20787, qn1000000, qn252645135, qn858993459, qn1000000000, qn1431655765, qj0, qj1, qj2, qj4, qj7, qj8, qj9, qj10, qj30, qj100, qj1000, qj1000000, qj1000000000, qj1442695040888963407, qj6364136223846793005, q_s1, q_s2, q_s3, q_s4, q_s5, iI_add, iI_sub, iI_mul, iI_neg, q_lt, q_le, q_eq, jI_add, jI_sub, jI_mul, jI_neg, jI_of, jI_to, j_le0, j_ge0, j_lt0, j_gt0, j_eq0, q_dvl, qz0, qz1, qz2, qz3, if_pos, if_neg, reduceIte, e3]
    · unfold f_X12_law
      simp (disch := omega) only [qn0, qn1, qn2, qn3, qn4, qn5, qn6, qn7, qn8, qn9, qn10, qn11, qn12, qn13, qn14, qn15, qn16, qn17, qn18, qn24, qn30, qn31, qn32, qn33, qn36, qn38, qn40, qn41, qn42, qn43, qn45, qn47, qn48, qn49, qn50, qn51, qn52, qn53, qn57, qn58, qn59, qn60, qn61, qn62, qn63, qn91, qn93, qn97, qn99, qn100, qn103, qn104, qn112, qn113, qn115, qn116, qn118, qn119, qn121, qn124, qn173, qn177, qn240, qn255, qn295, qn352, qn353, qn533, qn999, qn1000, qn1023, qn6561, qn10000, qn20787, qn1000000, qn252645135, qn858993459, qn1000000000, qn1431655765, qj0, qj1, qj2, qj4, qj7, qj8, qj9, qj10, qj30, qj100, qj1000, qj1000000, qj1000000000, qj1442695040888963407, qj6364136223846793005, q_s1, q_s2, q_s3, q_s4, q_s5, iI_add, iI_sub, iI_mul, iI_neg, q_lt, q_le, q_eq, jI_add, jI_sub, jI_mul, jI_neg, jI_of, jI_to, j_le0, j_ge0, j_lt0, j_gt0, j_eq0, q_dvl, qz0, qz1, qz2, qz3, if_pos, if_neg, reduceIte, e2, m_isOut]
  · refine ⟨iI 1, gs_up M 105 5 (iI z), gs_up (gs_up (gs_up M 105 5 (iI z)) 147 0 (iI 0)) 147 29 (iI z), ?_, ?_, hgo (by omega)⟩
    · unfold f_X11_law f_X4_hold
      simp (disch := omega) only [qn0, qn1, qn2, qn3, qn4, qn5, qn6, qn7, qn8, qn9, qn10, qn11, qn12, qn13, qn14, qn15, qn16, qn17, qn18, qn24, qn30, qn31, qn32, qn33, qn36, qn38, qn40, qn41, qn42, qn43, qn45, qn47, qn48, qn49, qn50, qn51, qn52, qn53, qn57, qn58, qn59, qn60, qn61, qn62, qn63, qn91, qn93, qn97, qn99, qn100, qn103, qn104, qn112, qn113, qn115, qn116, qn118, qn119, qn121, qn124, qn173, qn177, qn240, qn255, qn295, qn352, qn353, qn533, qn999, qn1000, qn1023, qn6561, qn10000, qn20787, qn1000000, qn252645135, qn858993459, qn1000000000, qn1431655765, qj0, qj1, qj2, qj4, qj7, qj8, qj9, qj10, qj30, qj100, qj1000, qj1000000, qj1000000000, qj1442695040888963407, qj6364136223846793005, q_s1, q_s2, q_s3, q_s4, q_s5, iI_add, iI_sub, iI_mul, iI_neg, q_lt, q_le, q_eq, jI_add, jI_sub, jI_mul, jI_neg, jI_of, jI_to, j_le0, j_ge0, j_lt0, j_gt0, j_eq0, q_dvl, qz0, qz1, qz2, qz3, if_pos, if_neg, reduceIte]
    · unfold f_X12_law
      simp (disch := omega) only [qn0, qn1, qn2, qn3, qn4, qn5, qn6, qn7, qn8, qn9, qn10, qn11, qn12, qn13, qn14, qn15, qn16, qn17, qn18, qn24, qn30, qn31, qn32, qn33, qn36, qn38, qn40, qn41, qn42, qn43, qn45, qn47, qn48, qn49, qn50, qn51, qn52, qn53, qn57, qn58, qn59, qn60, qn61, qn62, qn63, qn91, qn93, qn97, qn99, qn100, qn103, qn104, qn112, qn113, qn115, qn116, qn118, qn119, qn121, qn124, qn173, qn177, qn240, qn255, qn295, qn352, qn353, qn533, qn999, qn1000, qn1023, qn6561, qn10000, qn20787, qn1000000, qn252645135, qn858993459, qn1000000000, qn1431655765, qj0, qj1, qj2, qj4, qj7, qj8, qj9, qj10, qj30, qj100, qj1000, qj1000000, qj1000000000, qj1442695040888963407, qj6364136223846793005, q_s1, q_s2, q_s3, q_s4, q_s5, iI_add, iI_sub, iI_mul, iI_neg, q_lt, q_le, q_eq, jI_add, jI_sub, jI_mul, jI_neg, jI_of, jI_to, j_le0, j_ge0, j_lt0, j_gt0, j_eq0, q_dvl, qz0, qz1, qz2, qz3, if_pos, if_neg, reduceIte]
  · have e3 : f_X4_has M (iI z) = some (iI 1) := by
      unfold f_X4_has
      simp (disch := omega) only [qn0, qn1, qn2, qn3, qn4, qn5, qn6, qn7, qn8, qn9, qn10, qn11, qn12, qn13, qn14, qn15, qn16, qn17, qn18, qn24, qn30, qn31, qn32, qn33, qn36, qn38, qn40, qn41, qn42, qn43, qn45, qn47, qn48, qn49, qn50, qn51, qn52, qn53, qn57, qn58, qn59, qn60, qn61, qn62, qn63, qn91, qn93, qn97, qn99, qn100, qn103, qn104, qn112, qn113, qn115, qn116, qn118, qn119, qn121, qn124, qn173, qn177, qn240, qn255, qn295, qn352, qn353, qn533, qn999, qn1000, qn1023, qn6561, qn10000, qn20787, qn1000000, qn252645135, qn858993459, qn1000000000, qn1431655765, q_s1, q_s2, q_s3, q_s4, q_s5, iI_add, iI_sub, iI_mul, iI_neg, q_lt, q_le, q_eq, qz0, qz1, qz2, qz3, if_pos, if_neg, reduceIte, e1]
    have e4 : (gs_up (gs_up M 105 5 (iI z)) 147 0 (iI 0)) 147 7 = iI (T 3 4) := e2
    refine ⟨iI 1, gs_up M 105 5 (iI z), gs_up (gs_up (gs_up M 105 5 (iI z)) 147 0 (iI 0)) 147 29 (iI z), ?_, ?_, hgo (by omega)⟩
    · unfold f_X11_law f_X4_hold
      simp (disch := omega) only [qn0, qn1, qn2, qn3, qn4, qn5, qn6, qn7, qn8, qn9, qn10, qn11, qn12, qn13, qn14, qn15, qn16, qn17, qn18, qn24, qn30, qn31, qn32, qn33, qn36, qn38, qn40, qn41, qn42, qn43, qn45, qn47, qn48, qn49, qn50, qn51, qn52, qn53, qn57, qn58, qn59, qn60, qn61, qn62, qn63, qn91, qn93, qn97, qn99, qn100, qn103, qn104, qn112, qn113, qn115, qn116, qn118, qn119, qn121, qn124, qn173, qn177, qn240, qn255, qn295, qn352, qn353, qn533, qn999, qn1000, qn1023, qn6561, qn10000, qn20787, qn1000000, qn252645135, qn858993459, qn1000000000, qn1431655765, qj0, qj1, qj2, qj4, qj7, qj8, qj9, qj10, qj30, qj100, qj1000, qj1000000, qj1000000000, qj1442695040888963407, qj6364136223846793005, q_s1, q_s2, q_s3, q_s4, q_s5, iI_add, iI_sub, iI_mul, iI_neg, q_lt, q_le, q_eq, jI_add, jI_sub, jI_mul, jI_neg, jI_of, jI_to, j_le0, j_ge0, j_lt0, j_gt0, j_eq0, q_dvl, qz0, qz1, qz2, qz3, if_pos, if_neg, reduceIte, e3]
    · unfold f_X12_law
      simp (disch := omega) only [qn0, qn1, qn2, qn3, qn4, qn5, qn6, qn7, qn8, qn9, qn10, qn11, qn12, qn13, qn14, qn15, qn16, qn17, qn18, qn24, qn30, qn31, qn32, qn33, qn36, qn38, qn40, qn41, qn42, qn43, qn45, qn47, qn48, qn49, qn50, qn51, qn52, qn53, qn57, qn58, qn59, qn60, qn61, qn62, qn63, qn91, qn93, qn97, qn99, qn100, qn103, qn104, qn112, qn113, qn115, qn116, qn118, qn119, qn121, qn124, qn173, qn177, qn240, qn255, qn295, qn352, qn353, qn533, qn999, qn1000, qn1023, qn6561, qn10000, qn20787, qn1000000, qn252645135, qn858993459, qn1000000000, qn1431655765, qj0, qj1, qj2, qj4, qj7, qj8, qj9, qj10, qj30, qj100, qj1000, qj1000000, qj1000000000, qj1442695040888963407, qj6364136223846793005, q_s1, q_s2, q_s3, q_s4, q_s5, iI_add, iI_sub, iI_mul, iI_neg, q_lt, q_le, q_eq, jI_add, jI_sub, jI_mul, jI_neg, jI_of, jI_to, j_le0, j_ge0, j_lt0, j_gt0, j_eq0, q_dvl, qz0, qz1, qz2, qz3, if_pos, if_neg, reduceIte, e4, m_isIn]
theorem s_watch : gl_S_watch ma_Inv := by
  intro M L hI x1
  have hI0 := hI
  obtain ⟨s, T, V, W, C, D⟩ := hI
  have w := W.2.1
  obtain ⟨f1, f2, f3, f4, f5, f6, f7, f8, f9, f10, f11, f12, f13, f14, -⟩ := W.2.1
  have D1 := ma_D0 D w (iI 0)
  obtain ⟨z, z1, z2, rfl⟩ := q_any x1
  have e1 := C.wm
  have e2 := D1.wm
  have hgo : -1 ≤ z ∧ z < T 3 5 → ma_Inv (gs_up (gs_up (gs_up M 95 3 (iI z)) 147 0 (iI 0)) 147 30 (iI z)) L := fun hz =>
    have D2 := ma_D0 (D.hi w (iv_hi.rf.up (i := 95) (k := 3) (iI z) (by decide))) w (iI 0)
    ⟨s, ma_t T 3 z, V, ⟨W.1, w.t3 hz, W.2.2.t (by decide)⟩, (C.t3 z).lo (w.t3 hz) ((iv_lo.rf.up _ (by decide)).up _ (by decide)), D2.t3 z⟩
  rcases (by omega : z < -1 ∨ (T 3 5 ≤ z ∧ 0 ≤ z) ∨ z = -1 ∨ (0 ≤ z ∧ z < T 3 5)) with c | c | c | c
  · have e3 : f_X10_has M (iI z) = some (iI 0) := by
      unfold f_X10_has
      simp (disch := omega) only [qn0, qn1, qn2, qn3, qn4, qn5, qn6, qn7, qn8, qn9, qn10, qn11, qn12, qn13, qn14, qn15, qn16, qn17, qn18, qn24, qn30, qn31, qn32, qn33, qn36, qn38, qn40, qn41, qn42, qn43, qn45, qn47, qn48, qn49, qn50, qn51, qn52, qn53, qn57, qn58, qn59, qn60, qn61, qn62, qn63, qn91, qn93, qn97, qn99, qn100, qn103, qn104, qn112, qn113, qn115, qn116, qn118, qn119, qn121, qn124, qn173, qn177, qn240, qn255, qn295, qn352, qn353, qn533, qn999, qn1000, qn1023, qn6561, qn10000, qn20787, qn1000000, qn252645135, qn858993459, qn1000000000, qn1431655765, q_s1, q_s2, q_s3, q_s4, q_s5, iI_add, iI_sub, iI_mul, iI_neg, q_lt, q_le, q_eq, qz0, qz1, qz2, qz3, if_pos, if_neg, reduceIte, e1]
    refine ⟨iI 0, M, gs_up M 147 0 (iI 0), ?_, ?_, hI0.ag (ma_g0 iv_ag.rf _)⟩
    · unfold f_X11_watch f_X10_hold
      simp (disch := omega) only [qn0, qn1, qn2, qn3, qn4, qn5, qn6, qn7, qn8, qn9, qn10, qn11, qn12, qn13, qn14, qn15, qn16, qn17, qn18, qn24, qn30, qn31, qn32, qn33, qn36, qn38, qn40, qn41, qn42, qn43, qn45, qn47, qn48, qn49, qn50, qn51, qn52, qn53, qn57, qn58, qn59, qn60, qn61, qn62, qn63, qn91, qn93, qn97, qn99, qn100, qn103, qn104, qn112, qn113, qn115, qn116, qn118, qn119, qn121, qn124, qn173, qn177, qn240, qn255, qn295, qn352, qn353, qn533, qn999, qn1000, qn1023, qn6561, qn10000, qn20787, qn1000000, qn252645135, qn858993459, qn1000000000, qn1431655765, qj0, qj1, qj2, qj4, qj7, qj8, qj9, qj10, qj30, qj100, qj1000, qj1000000, qj1000000000, qj1442695040888963407, qj6364136223846793005, q_s1, q_s2, q_s3, q_s4, q_s5, iI_add, iI_sub, iI_mul, iI_neg, q_lt, q_le, q_eq, jI_add, jI_sub, jI_mul, jI_neg, jI_of, jI_to, j_le0, j_ge0, j_lt0, j_gt0, j_eq0, q_dvl, qz0, qz1, qz2, qz3, if_pos, if_neg, reduceIte, e3]
    · unfold f_X12_watch
      simp (disch := omega) only [qn0, qn1, qn2, qn3, qn4, qn5, qn6, qn7, qn8, qn9, qn10, qn11, qn12, qn13, qn14, qn15, qn16, qn17, qn18, qn24, qn30, qn31, qn32, qn33, qn36, qn38, qn40, qn41, qn42, qn43, qn45, qn47, qn48, qn49, qn50, qn51, qn52, qn53, qn57, qn58, qn59, qn60, qn61, qn62, qn63, qn91, qn93, qn97, qn99, qn100, qn103, qn104, qn112, qn113, qn115, qn116, qn118, qn119, qn121, qn124, qn173, qn177, qn240, qn255, qn295, qn352, qn353, qn533, qn999, qn1000, qn1023, qn6561, qn10000, qn20787, qn1000000, qn252645135, qn858993459, qn1000000000, qn1431655765, qj0, qj1, qj2, qj4, qj7, qj8, qj9, qj10, qj30, qj100, qj1000, qj1000000, qj1000000000, qj1442695040888963407, qj6364136223846793005, q_s1, q_s2, q_s3, q_s4, q_s5, iI_add, iI_sub, iI_mul, iI_neg, q_lt, q_le, q_eq, jI_add, jI_sub, jI_mul, jI_neg, jI_of, jI_to, j_le0, j_ge0, j_lt0, j_gt0, j_eq0, q_dvl, qz0, qz1, qz2, qz3, if_pos, if_neg, reduceIte, e2, m_isOut]
  · have e3 : f_X10_has M (iI z) = some (iI 0) := by
      unfold f_X10_has
      simp (disch := omega) only [qn0, qn1, qn2, qn3, qn4, qn5, qn6, qn7, qn8, qn9, qn10, qn11, qn12, qn13, qn14, qn15, qn16, qn17, qn18, qn24, qn30, qn31, qn32, qn33, qn36, qn38, qn40, qn41, qn42, qn43, qn45, qn47, qn48, qn49, qn50, qn51, qn52, qn53, qn57, qn58, qn59, qn60, qn61, qn62, qn63, qn91, qn93, qn97, qn99, qn100, qn103, qn104, qn112, qn113, qn115, qn116, qn118, qn119, qn121, qn124, qn173, qn177, qn240, qn255, qn295, qn352, qn353, qn533, qn999, qn1000, qn1023, qn6561, qn10000, qn20787, qn1000000, qn252645135, qn858993459, qn1000000000, qn1431655765, q_s1, q_s2, q_s3, q_s4, q_s5, iI_add, iI_sub, iI_mul, iI_neg, q_lt, q_le, q_eq, qz0, qz1, qz2, qz3, if_pos, if_neg, reduceIte, e1]
    refine ⟨iI 0, M, gs_up M 147 0 (iI 0), ?_, ?_, hI0.ag (ma_g0 iv_ag.rf _)⟩
    · unfold f_X11_watch f_X10_hold
      simp (disch := omega) only [qn0, qn1, qn2, qn3, qn4, qn5, qn6, qn7, qn8, qn9, qn10, qn11, qn12, qn13, qn14, qn15, qn16, qn17, qn18, qn24, qn30, qn31, qn32, qn33, qn36, qn38, qn40, qn41, qn42, qn43, qn45, qn47, qn48, qn49, qn50, qn51, qn52, qn53, qn57, qn58, qn59, qn60, qn61, qn62, qn63, qn91, qn93, qn97, qn99, qn100, qn103, qn104, qn112, qn113, qn115, qn116, qn118, qn119, qn121, qn124, qn173, qn177, qn240, qn255, qn295, qn352, qn353, qn533, qn999, qn1000, qn1023, qn6561, qn10000, qn20787, qn1000000, qn252645135, qn858993459, qn1000000000, qn1431655765, qj0, qj1, qj2, qj4, qj7, qj8, qj9, qj10, qj30, qj100, qj1000, qj1000000, qj1000000000, qj1442695040888963407, qj6364136223846793005, q_s1, q_s2, q_s3, q_s4, q_s5, iI_add, iI_sub, iI_mul, iI_neg, q_lt, q_le, q_eq, jI_add, jI_sub, jI_mul, jI_neg, jI_of, jI_to, j_le0, j_ge0, j_lt0, j_gt0, j_eq0, q_dvl, qz0, qz1, qz2, qz3, if_pos, if_neg, reduceIte, e3]
    · unfold f_X12_watch
      simp (disch := omega) only [qn0, qn1, qn2, qn3, qn4, qn5, qn6, qn7, qn8, qn9, qn10, qn11, qn12, qn13, qn14, qn15, qn16, qn17, qn18, qn24, qn30, qn31, qn32, qn33, qn36, qn38, qn40, qn41, qn42, qn43, qn45, qn47, qn48, qn49, qn50, qn51, qn52, qn53, qn57, qn58, qn59, qn60, qn61, qn62, qn63, qn91, qn93, qn97, qn99, qn100, qn103, qn104, qn112, qn113, qn115, qn116, qn118, qn119, qn121, qn124, qn173, qn177, qn240, qn255, qn295, qn352, qn353, qn533, qn999, qn1000, qn1023, qn6561, qn10000, qn20787, qn1000000, qn252645135, qn858993459, qn1000000000, qn1431655765, qj0, qj1, qj2, qj4, qj7, qj8, qj9, qj10, qj30, qj100, qj1000, qj1000000, qj1000000000, qj1442695040888963407, qj6364136223846793005, q_s1, q_s2, q_s3, q_s4, q_s5, iI_add, iI_sub, iI_mul, iI_neg, q_lt, q_le, q_eq, jI_add, jI_sub, jI_mul, jI_neg, jI_of, jI_to, j_le0, j_ge0, j_lt0, j_gt0, j_eq0, q_dvl, qz0, qz1, qz2, qz3, if_pos, if_neg, reduceIte, e2, m_isOut]
  · refine ⟨iI 1, gs_up M 95 3 (iI z), gs_up (gs_up (gs_up M 95 3 (iI z)) 147 0 (iI 0)) 147 30 (iI z), ?_, ?_, hgo (by omega)⟩
    · unfold f_X11_watch f_X10_hold
      simp (disch := omega) only [qn0, qn1, qn2, qn3, qn4, qn5, qn6, qn7, qn8, qn9, qn10, qn11, qn12, qn13, qn14, qn15, qn16, qn17, qn18, qn24, qn30, qn31, qn32, qn33, qn36, qn38, qn40, qn41, qn42, qn43, qn45, qn47, qn48, qn49, qn50, qn51, qn52, qn53, qn57, qn58, qn59, qn60, qn61, qn62, qn63, qn91, qn93, qn97, qn99, qn100, qn103, qn104, qn112, qn113, qn115, qn116, qn118, qn119, qn121, qn124, qn173, qn177, qn240, qn255, qn295, qn352, qn353, qn533, qn999, qn1000, qn1023, qn6561, qn10000, qn20787, qn1000000, qn252645135, qn858993459, qn1000000000, qn1431655765, qj0, qj1, qj2, qj4, qj7, qj8, qj9, qj10, qj30, qj100, qj1000, qj1000000, qj1000000000, qj1442695040888963407, qj6364136223846793005, q_s1, q_s2, q_s3, q_s4, q_s5, iI_add, iI_sub, iI_mul, iI_neg, q_lt, q_le, q_eq, jI_add, jI_sub, jI_mul, jI_neg, jI_of, jI_to, j_le0, j_ge0, j_lt0, j_gt0, j_eq0, q_dvl, qz0, qz1, qz2, qz3, if_pos, if_neg, reduceIte]
    · unfold f_X12_watch
      simp (disch := omega) only [qn0, qn1, qn2, qn3, qn4, qn5, qn6, qn7, qn8, qn9, qn10, qn11, qn12, qn13, qn14, qn15, qn16, qn17, qn18, qn24, qn30, qn31, qn32, qn33, qn36, qn38, qn40, qn41, qn42, qn43, qn45, qn47, qn48, qn49, qn50, qn51, qn52, qn53, qn57, qn58, qn59, qn60, qn61, qn62, qn63, qn91, qn93, qn97, qn99, qn100, qn103, qn104, qn112, qn113, qn115, qn116, qn118, qn119, qn121, qn124, qn173, qn177, qn240, qn255, qn295, qn352, qn353, qn533, qn999, qn1000, qn1023, qn6561, qn10000, qn20787, qn1000000, qn252645135, qn858993459, qn1000000000, qn1431655765, qj0, qj1, qj2, qj4, qj7, qj8, qj9, qj10, qj30, qj100, qj1000, qj1000000, qj1000000000, qj1442695040888963407, qj6364136223846793005, q_s1, q_s2, q_s3, q_s4, q_s5, iI_add, iI_sub, iI_mul, iI_neg, q_lt, q_le, q_eq, jI_add, jI_sub, jI_mul, jI_neg, jI_of, jI_to, j_le0, j_ge0, j_lt0, j_gt0, j_eq0, q_dvl, qz0, qz1, qz2, qz3, if_pos, if_neg, reduceIte]
  · have e3 : f_X10_has M (iI z) = some (iI 1) := by
      unfold f_X10_has
      simp (disch := omega) only [qn0, qn1, qn2, qn3, qn4, qn5, qn6, qn7, qn8, qn9, qn10, qn11, qn12, qn13, qn14, qn15, qn16, qn17, qn18, qn24, qn30, qn31, qn32, qn33, qn36, qn38, qn40, qn41, qn42, qn43, qn45, qn47, qn48, qn49, qn50, qn51, qn52, qn53, qn57, qn58, qn59, qn60, qn61, qn62, qn63, qn91, qn93, qn97, qn99, qn100, qn103, qn104, qn112, qn113, qn115, qn116, qn118, qn119, qn121, qn124, qn173, qn177, qn240, qn255, qn295, qn352, qn353, qn533, qn999, qn1000, qn1023, qn6561, qn10000, qn20787, qn1000000, qn252645135, qn858993459, qn1000000000, qn1431655765, q_s1, q_s2, q_s3, q_s4, q_s5, iI_add, iI_sub, iI_mul, iI_neg, q_lt, q_le, q_eq, qz0, qz1, qz2, qz3, if_pos, if_neg, reduceIte, e1]
    have e4 : (gs_up (gs_up M 95 3 (iI z)) 147 0 (iI 0)) 147 26 = iI (T 3 5) := e2
    refine ⟨iI 1, gs_up M 95 3 (iI z), gs_up (gs_up (gs_up M 95 3 (iI z)) 147 0 (iI 0)) 147 30 (iI z), ?_, ?_, hgo (by omega)⟩
    · unfold f_X11_watch f_X10_hold
      simp (disch := omega) only [qn0, qn1, qn2, qn3, qn4, qn5, qn6, qn7, qn8, qn9, qn10, qn11, qn12, qn13, qn14, qn15, qn16, qn17, qn18, qn24, qn30, qn31, qn32, qn33, qn36, qn38, qn40, qn41, qn42, qn43, qn45, qn47, qn48, qn49, qn50, qn51, qn52, qn53, qn57, qn58, qn59, qn60, qn61, qn62, qn63, qn91, qn93, qn97, qn99, qn100, qn103, qn104, qn112, qn113, qn115, qn116, qn118, qn119, qn121, qn124, qn173, qn177, qn240, qn255, qn295, qn352, qn353, qn533, qn999, qn1000, qn1023, qn6561, qn10000, qn20787, qn1000000, qn252645135, qn858993459, qn1000000000, qn1431655765, qj0, qj1, qj2, qj4, qj7, qj8, qj9, qj10, qj30, qj100, qj1000, qj1000000, qj1000000000, qj1442695040888963407, qj6364136223846793005, q_s1, q_s2, q_s3, q_s4, q_s5, iI_add, iI_sub, iI_mul, iI_neg, q_lt, q_le, q_eq, jI_add, jI_sub, jI_mul, jI_neg, jI_of, jI_to, j_le0, j_ge0, j_lt0, j_gt0, j_eq0, q_dvl, qz0, qz1, qz2, qz3, if_pos, if_neg, reduceIte, e3]
    · unfold f_X12_watch
      simp (disch := omega) only [qn0, qn1, qn2, qn3, qn4, qn5, qn6, qn7, qn8, qn9, qn10, qn11, qn12, qn13, qn14, qn15, qn16, qn17, qn18, qn24, qn30, qn31, qn32, qn33, qn36, qn38, qn40, qn41, qn42, qn43, qn45, qn47, qn48, qn49, qn50, qn51, qn52, qn53, qn57, qn58, qn59, qn60, qn61, qn62, qn63, qn91, qn93, qn97, qn99, qn100, qn103, qn104, qn112, qn113, qn115, qn116, qn118, qn119, qn121, qn124, qn173, qn177, qn240, qn255, qn295, qn352, qn353, qn533, qn999, qn1000, qn1023, qn6561, qn10000, qn20787, qn1000000, qn252645135, qn858993459, qn1000000000, qn1431655765, qj0, qj1, qj2, qj4, qj7, qj8, qj9, qj10, qj30, qj100, qj1000, qj1000000, qj1000000000, qj1442695040888963407, qj6364136223846793005, q_s1, q_s2, q_s3, q_s4, q_s5, iI_add, iI_sub, iI_mul, iI_neg, q_lt, q_le, q_eq, jI_add, jI_sub, jI_mul, jI_neg, jI_of, jI_to, j_le0, j_ge0, j_lt0, j_gt0, j_eq0, q_dvl, qz0, qz1, qz2, qz3, if_pos, if_neg, reduceIte, e4, m_isIn]
theorem s_end : gl_S_end ma_Inv := by
  intro M L hI x1
  have hI0 := hI
  obtain ⟨s, T, V, W, C, D⟩ := hI
  have w := W.2.1
  obtain ⟨f1, f2, f3, f4, f5, f6, f7, f8, f9, f10, f11, f12, f13, f14, -⟩ := W.2.1
  have D1 := ma_D0 D w (iI 0)
  obtain ⟨z, z1, z2, rfl⟩ := q_any x1
  have e1 := C.ta
  have e2 := D1.ta
  rcases (by omega : z < 0 ∨ T 3 7 < z ∨ (0 ≤ z ∧ z ≤ T 3 7)) with c | c | c
  · refine ⟨iI 0, M, gs_up M 147 0 (iI 0), ?_, ?_, hI0.ag (ma_g0 iv_ag.rf _)⟩
    · unfold f_X11_end f_X7_keep
      simp (disch := omega) only [qn0, qn1, qn2, qn3, qn4, qn5, qn6, qn7, qn8, qn9, qn10, qn11, qn12, qn13, qn14, qn15, qn16, qn17, qn18, qn24, qn30, qn31, qn32, qn33, qn36, qn38, qn40, qn41, qn42, qn43, qn45, qn47, qn48, qn49, qn50, qn51, qn52, qn53, qn57, qn58, qn59, qn60, qn61, qn62, qn63, qn91, qn93, qn97, qn99, qn100, qn103, qn104, qn112, qn113, qn115, qn116, qn118, qn119, qn121, qn124, qn173, qn177, qn240, qn255, qn295, qn352, qn353, qn533, qn999, qn1000, qn1023, qn6561, qn10000, qn20787, qn1000000, qn252645135, qn858993459, qn1000000000, qn1431655765, qj0, qj1, qj2, qj4, qj7, qj8, qj9, qj10, qj30, qj100, qj1000, qj1000000, qj1000000000, qj1442695040888963407, qj6364136223846793005, q_s1, q_s2, q_s3, q_s4, q_s5, iI_add, iI_sub, iI_mul, iI_neg, q_lt, q_le, q_eq, jI_add, jI_sub, jI_mul, jI_neg, jI_of, jI_to, j_le0, j_ge0, j_lt0, j_gt0, j_eq0, q_dvl, qz0, qz1, qz2, qz3, if_pos, if_neg, reduceIte]
    · unfold f_X12_end
      simp (disch := omega) only [qn0, qn1, qn2, qn3, qn4, qn5, qn6, qn7, qn8, qn9, qn10, qn11, qn12, qn13, qn14, qn15, qn16, qn17, qn18, qn24, qn30, qn31, qn32, qn33, qn36, qn38, qn40, qn41, qn42, qn43, qn45, qn47, qn48, qn49, qn50, qn51, qn52, qn53, qn57, qn58, qn59, qn60, qn61, qn62, qn63, qn91, qn93, qn97, qn99, qn100, qn103, qn104, qn112, qn113, qn115, qn116, qn118, qn119, qn121, qn124, qn173, qn177, qn240, qn255, qn295, qn352, qn353, qn533, qn999, qn1000, qn1023, qn6561, qn10000, qn20787, qn1000000, qn252645135, qn858993459, qn1000000000, qn1431655765, qj0, qj1, qj2, qj4, qj7, qj8, qj9, qj10, qj30, qj100, qj1000, qj1000000, qj1000000000, qj1442695040888963407, qj6364136223846793005, q_s1, q_s2, q_s3, q_s4, q_s5, iI_add, iI_sub, iI_mul, iI_neg, q_lt, q_le, q_eq, jI_add, jI_sub, jI_mul, jI_neg, jI_of, jI_to, j_le0, j_ge0, j_lt0, j_gt0, j_eq0, q_dvl, qz0, qz1, qz2, qz3, if_pos, if_neg, reduceIte]
  · refine ⟨iI 0, M, gs_up M 147 0 (iI 0), ?_, ?_, hI0.ag (ma_g0 iv_ag.rf _)⟩
    · unfold f_X11_end f_X7_keep
      simp (disch := omega) only [qn0, qn1, qn2, qn3, qn4, qn5, qn6, qn7, qn8, qn9, qn10, qn11, qn12, qn13, qn14, qn15, qn16, qn17, qn18, qn24, qn30, qn31, qn32, qn33, qn36, qn38, qn40, qn41, qn42, qn43, qn45, qn47, qn48, qn49, qn50, qn51, qn52, qn53, qn57, qn58, qn59, qn60, qn61, qn62, qn63, qn91, qn93, qn97, qn99, qn100, qn103, qn104, qn112, qn113, qn115, qn116, qn118, qn119, qn121, qn124, qn173, qn177, qn240, qn255, qn295, qn352, qn353, qn533, qn999, qn1000, qn1023, qn6561, qn10000, qn20787, qn1000000, qn252645135, qn858993459, qn1000000000, qn1431655765, qj0, qj1, qj2, qj4, qj7, qj8, qj9, qj10, qj30, qj100, qj1000, qj1000000, qj1000000000, qj1442695040888963407, qj6364136223846793005, q_s1, q_s2, q_s3, q_s4, q_s5, iI_add, iI_sub, iI_mul, iI_neg, q_lt, q_le, q_eq, jI_add, jI_sub, jI_mul, jI_neg, jI_of, jI_to, j_le0, j_ge0, j_lt0, j_gt0, j_eq0, q_dvl, qz0, qz1, qz2, qz3, if_pos, if_neg, reduceIte, e1]
    · unfold f_X12_end
      simp (disch := omega) only [qn0, qn1, qn2, qn3, qn4, qn5, qn6, qn7, qn8, qn9, qn10, qn11, qn12, qn13, qn14, qn15, qn16, qn17, qn18, qn24, qn30, qn31, qn32, qn33, qn36, qn38, qn40, qn41, qn42, qn43, qn45, qn47, qn48, qn49, qn50, qn51, qn52, qn53, qn57, qn58, qn59, qn60, qn61, qn62, qn63, qn91, qn93, qn97, qn99, qn100, qn103, qn104, qn112, qn113, qn115, qn116, qn118, qn119, qn121, qn124, qn173, qn177, qn240, qn255, qn295, qn352, qn353, qn533, qn999, qn1000, qn1023, qn6561, qn10000, qn20787, qn1000000, qn252645135, qn858993459, qn1000000000, qn1431655765, qj0, qj1, qj2, qj4, qj7, qj8, qj9, qj10, qj30, qj100, qj1000, qj1000000, qj1000000000, qj1442695040888963407, qj6364136223846793005, q_s1, q_s2, q_s3, q_s4, q_s5, iI_add, iI_sub, iI_mul, iI_neg, q_lt, q_le, q_eq, jI_add, jI_sub, jI_mul, jI_neg, jI_of, jI_to, j_le0, j_ge0, j_lt0, j_gt0, j_eq0, q_dvl, qz0, qz1, qz2, qz3, if_pos, if_neg, reduceIte, e2]
  · have D2 := ma_D0 (D.hi w (iv_hi.rf.up (i := 1) (k := 1) (iI z) (by decide))) w (iI 0)
    have e3 := D2.ta
    refine ⟨iI 1, gs_up M 1 1 (iI z), gs_up (gs_up (gs_up M 1 1 (iI z)) 147 0 (iI 0)) 147 6 (iI z), ?_, ?_, s, ma_t T 7 z, V, ⟨W.1, w.t7 c, W.2.2.t (by decide)⟩, ?_, ?_⟩
    · unfold f_X11_end f_X7_keep
      simp (disch := omega) only [qn0, qn1, qn2, qn3, qn4, qn5, qn6, qn7, qn8, qn9, qn10, qn11, qn12, qn13, qn14, qn15, qn16, qn17, qn18, qn24, qn30, qn31, qn32, qn33, qn36, qn38, qn40, qn41, qn42, qn43, qn45, qn47, qn48, qn49, qn50, qn51, qn52, qn53, qn57, qn58, qn59, qn60, qn61, qn62, qn63, qn91, qn93, qn97, qn99, qn100, qn103, qn104, qn112, qn113, qn115, qn116, qn118, qn119, qn121, qn124, qn173, qn177, qn240, qn255, qn295, qn352, qn353, qn533, qn999, qn1000, qn1023, qn6561, qn10000, qn20787, qn1000000, qn252645135, qn858993459, qn1000000000, qn1431655765, qj0, qj1, qj2, qj4, qj7, qj8, qj9, qj10, qj30, qj100, qj1000, qj1000000, qj1000000000, qj1442695040888963407, qj6364136223846793005, q_s1, q_s2, q_s3, q_s4, q_s5, iI_add, iI_sub, iI_mul, iI_neg, q_lt, q_le, q_eq, jI_add, jI_sub, jI_mul, jI_neg, jI_of, jI_to, j_le0, j_ge0, j_lt0, j_gt0, j_eq0, q_dvl, qz0, qz1, qz2, qz3, if_pos, if_neg, reduceIte, e1]
    · unfold f_X12_end
      simp (disch := omega) only [qn0, qn1, qn2, qn3, qn4, qn5, qn6, qn7, qn8, qn9, qn10, qn11, qn12, qn13, qn14, qn15, qn16, qn17, qn18, qn24, qn30, qn31, qn32, qn33, qn36, qn38, qn40, qn41, qn42, qn43, qn45, qn47, qn48, qn49, qn50, qn51, qn52, qn53, qn57, qn58, qn59, qn60, qn61, qn62, qn63, qn91, qn93, qn97, qn99, qn100, qn103, qn104, qn112, qn113, qn115, qn116, qn118, qn119, qn121, qn124, qn173, qn177, qn240, qn255, qn295, qn352, qn353, qn533, qn999, qn1000, qn1023, qn6561, qn10000, qn20787, qn1000000, qn252645135, qn858993459, qn1000000000, qn1431655765, qj0, qj1, qj2, qj4, qj7, qj8, qj9, qj10, qj30, qj100, qj1000, qj1000000, qj1000000000, qj1442695040888963407, qj6364136223846793005, q_s1, q_s2, q_s3, q_s4, q_s5, iI_add, iI_sub, iI_mul, iI_neg, q_lt, q_le, q_eq, jI_add, jI_sub, jI_mul, jI_neg, jI_of, jI_to, j_le0, j_ge0, j_lt0, j_gt0, j_eq0, q_dvl, qz0, qz1, qz2, qz3, if_pos, if_neg, reduceIte, e3]
    · exact (C.t7 z c.2).lo (w.t7 c) ((iv_lo.rf.up _ (by decide)).up _ (by decide))
    · exact D2.t7 z c.2
