/-! a WATCH taken from the TAPE -/
def wt_T (T : Nat → Nat → Int) (g : Nat → Int) (i : Nat) : Nat → Nat → Int := fun x y => if x = 3 ∧ y = 7 then 0 else if x = 3 ∧ y = 5 then T 3 5 + 1 else if x = 5 ∧ 9 * (T 3 5).toNat ≤ y then wt_d g i (y - 9 * (T 3 5).toNat) else T x y
section TextW
variable {s : Nat → Int} {T : Nat → Nat → Int} {V : ma_V} {M M1 N : gs_M} {L : gs_L} {g : Nat → Int} {i : Nat}
theorem wt_T_r {x : Nat} (h : x ≠ 3) (h5 : x ≠ 5) : wt_T T g i x = T x := by
  funext y
  unfold wt_T
  rw [if_neg (fun z => h z.1), if_neg (fun z => h z.1), if_neg (fun z => h5 z.1)]
theorem wt_T_o {y : Nat} (h : y < 9 * (T 3 5).toNat) : wt_T T g i 5 y = T 5 y := by
  unfold wt_T
  rw [if_neg (by omega), if_neg (by omega), if_neg (by omega)]
theorem wt_T_i {h : Nat} : wt_T T g i 5 (9 * (T 3 5).toNat + h) = wt_d g i h := by
  unfold wt_T
  rw [if_neg (by omega), if_neg (by omega), if_pos (by omega)]
  congr 1
  omega
theorem wt_T_w (w : ma_wT T) (c : T 3 5 < 4) (hg : ∀ j, j < i → 0 ≤ g j ∧ g j ≤ 9) : ma_wT (wt_T T g i) := by
  obtain ⟨h1, h2, h3, h4, h5, h6, h7, h8, h9, h10, h11, h12, h13, h14, h15, h16, h17, h18, h19⟩ := id w
  refine ⟨h1, h2, h3, h4, h5, h6, h7, h8, ⟨h9.1, ?_⟩, ⟨?_, ?_⟩, h11, ⟨Int.le_refl 0, show (0 : Int) ≤ 240 by decide⟩, h13, h14, fun k hk => ?_, fun w h hw hh => ?_, h17, ?_, fun t ht => ?_⟩
  · show T 3 3 < T 3 5 + 1
    omega
  · show 0 ≤ T 3 5 + 1
    omega
  · show T 3 5 + 1 ≤ 4
    omega
  · have hk' : (k : Int) < 0 := hk
    omega
  · have hw' : (w : Int) < T 3 5 + 1 := hw
    by_cases c2 : (w : Int) < T 3 5
    · rw [wt_T_o (by omega)]
      exact h16 w h c2 hh
    · have e : w = (T 3 5).toNat := by omega
      subst e
      rw [wt_T_i]
      by_cases c3 : h < i
      · have := hg h c3
        rw [wt_d_lt c3]
        split <;> omega
      · rw [wt_d_ge c3]
        omega
  · intro h8
    rw [wt_T_r (x := 7) (by decide) (by decide)]
    exact h18 h8
  · rw [wt_T_r (by omega) (by omega)]
    exact h19 t ht
theorem wt_T_V (h : ma_wV T V) : ma_wV (wt_T T g i) V := h
theorem ma_C.wtx (w : ma_wT T) (C : ma_C s T V M) (k : ∀ x y, x ≤ 146 → iv_scr x y = false → x ≠ 96 → ¬ (x = 95 ∧ y = 2) → ¬ (x = 1 ∧ y = 1) → M1 x y = M x y) (e1 : M1 95 2 = iI (T 3 5 + 1)) (e2 : M1 1 1 = iI 0) (e3 : ∀ h, h < 9 → M1 96 (9 * (T 3 5).toNat + h) = iI (wt_d g i h)) (e4 : ∀ y, y < 9 * (T 3 5).toNat → M1 96 y = M 96 y) : ma_C s (wt_T T g i) V M1 := by
  obtain ⟨h1, h2, h3, h4, h5, h6, h7, h8, h9, h10, h11, h12, h13, h14, h15, h16, ⟨nx, h17, h18, h19⟩, h20, h21⟩ := C
  obtain ⟨-, -, -, -, -, -, -, w8, -⟩ := w
  have G : ∀ x, x ≤ 146 → x ≠ 96 → x ≠ 95 → x ≠ 1 → (∀ b, iv_scr x b = false) → M1 x = M x := fun x hx a1 a2 a3 hs => funext fun b => k x b hx (hs b) a1 (fun z => a2 z.1) (fun z => a3 z.1)
  refine ⟨?_, ?_, ?_, ?_, ?_, ?_, ?_, e1, ?_, e2, ?_, ?_, fun k hk => ?_, fun w h hw hh => ?_, ?_, ?_, ⟨nx, h17, ?_, fun t ht => ?_⟩, fun k hk => ?_, ?_⟩
  · rw [G 3 (by decide) (by decide) (by decide) (by decide) (fun _ => rfl)]; exact h1
  · rw [G 4 (by decide) (by decide) (by decide) (by decide) (fun _ => rfl)]; exact h2
  · rw [G 5 (by decide) (by decide) (by decide) (by decide) (fun _ => rfl)]; exact h3
  · rw [G 0 (by decide) (by decide) (by decide) (by decide) (fun _ => rfl)]; exact h4
  · rw [G 105 (by decide) (by decide) (by decide) (by decide) (fun _ => rfl)]; exact h5
  · rw [k 95 3 (by decide) rfl (by decide) (by decide) (by decide)]; exact h6
  · rw [G 105 (by decide) (by decide) (by decide) (by decide) (fun _ => rfl)]; exact h7
  · rw [k 134 7 (by decide) rfl (by decide) (by decide) (by decide)]; exact h9
  · rw [G 0 (by decide) (by decide) (by decide) (by decide) (fun _ => rfl)]; exact h11
  · rw [G 13 (by decide) (by decide) (by decide) (by decide) (fun _ => rfl)]; exact h12
  · have hk' : (k : Int) < 0 := hk
    omega
  · have hw' : (w : Int) < T 3 5 + 1 := hw
    by_cases c2 : (w : Int) < T 3 5
    · rw [e4 _ (by omega), wt_T_o (by omega)]
      exact h14 w h c2 hh
    · have e : w = (T 3 5).toNat := by omega
      subst e
      rw [e3 h hh, wt_T_i]
  · rw [G 135 (by decide) (by decide) (by decide) (by decide) (fun _ => rfl), G 136 (by decide) (by decide) (by decide) (by decide) (fun _ => rfl), G 137 (by decide) (by decide) (by decide) (by decide) (fun _ => rfl)]; exact h15
  · rw [G 12 (by decide) (by decide) (by decide) (by decide) (fun _ => rfl), wt_T_r (x := 7) (by decide) (by decide)]; exact h16
  · rw [G 13 (by decide) (by decide) (by decide) (by decide) (fun _ => rfl)]; exact h18
  · rw [G _ (by omega) (by omega) (by omega) (by omega) (iv_scr_act (Nat.mod_lt _ (by decide))), wt_T_r (by omega) (by omega)]
    exact h19 t ht
  · have hk' : (k : Int) < T 3 4 := hk
    exact (h20 k hk).cg (fun r r1 r2 => G r (by omega) (by omega) (by omega) (by omega) (iv_scr_law (by omega) r1 r2))
  · rw [G 10 (by decide) (by decide) (by decide) (by decide) (fun _ => rfl)]; exact h21
theorem ma_M.wtx (w : ma_wT T) (D : ma_M s T V M) (hi : i ≤ 9) (hg : ∀ j, j < i → 0 ≤ g j ∧ g j ≤ 9) (k : ∀ x y, 147 ≤ x → iv_scr x y = false → x ≠ 156 → x ≠ 157 → ¬ (x = 147 ∧ (y = 26 ∨ y = 6)) → M1 x y = M x y) (e1 : M1 147 26 = iI (T 3 5 + 1)) (e2 : M1 147 6 = iI 0) (e3 : ∀ j, j < i → M1 156 (9 * (T 3 5).toNat + j) = iI (g j)) (e4 : ∀ y, y < 9 * (T 3 5).toNat → M1 156 y = M 156 y) (e5 : M1 157 (T 3 5).toNat = iI (i : Nat)) (e6 : ∀ y, y < (T 3 5).toNat → M1 157 y = M 157 y) : ma_M s (wt_T T g i) V M1 := by
  obtain ⟨h1, h2, h3, h4, h5, h6, h7, h8, h9, h10, h11, h12, h13, h14, h15, h16, h17, h18, h19⟩ := D
  obtain ⟨-, -, -, -, -, -, -, w8, -, w10, -⟩ := w
  have G : ∀ x, 147 ≤ x → x ≠ 156 → x ≠ 157 → x ≠ 147 → (∀ b, iv_scr x b = false) → M1 x = M x := fun x hx a1 a2 a3 hs => funext fun b => k x b hx (hs b) a1 a2 (fun z => a3 z.1)
  refine ⟨?_, ?_, ?_, ?_, ?_, ?_, ?_, e1, ?_, e2, ?_, ?_, fun k hk => ?_, fun w hw => ?_, ?_, ?_, fun t ht => ?_, fun k hk => ?_, ?_⟩
  · rw [k 147 24 (by decide) rfl (by decide) (by decide) (by decide)]; exact h1
  · rw [G 152 (by decide) (by decide) (by decide) (by decide) (fun _ => rfl)]; exact h2
  · rw [G 154 (by decide) (by decide) (by decide) (by decide) (fun _ => rfl)]; exact h3
  · rw [k 147 31 (by decide) rfl (by decide) (by decide) (by decide)]; exact h4
  · rw [k 147 29 (by decide) rfl (by decide) (by decide) (by decide)]; exact h5
  · rw [k 147 30 (by decide) rfl (by decide) (by decide) (by decide)]; exact h6
  · rw [k 147 7 (by decide) rfl (by decide) (by decide) (by decide)]; exact h7
  · rw [k 147 40 (by decide) rfl (by decide) (by decide) (by decide)]; exact h9
  · rw [k 147 46 (by decide) rfl (by decide) (by decide) (by decide)]; exact h11
  · rw [k 147 35 (by decide) rfl (by decide) (by decide) (by decide)]; exact h12
  · have hk' : (k : Int) < 0 := hk
    omega
  · have hw' : (w : Int) < T 3 5 + 1 := hw
    by_cases c2 : (w : Int) < T 3 5
    · obtain ⟨n, g1, g2, g3⟩ := h14 w c2
      refine ⟨n, g1, by rw [e6 w (by omega)]; exact g2, fun q hq => ?_⟩
      rw [e4 _ (by omega), wt_T_o (by omega)]
      exact g3 q hq
    · have e : w = (T 3 5).toNat := by omega
      subst e
      refine ⟨i, hi, e5, fun q hq => ⟨fun hqi => ?_, fun hqi => ?_⟩⟩
      · have := hg q hqi
        refine ⟨g q, this.1, this.2, e3 q hqi, ?_⟩
        rw [wt_T_i, wt_d_lt hqi]
      · rw [wt_T_i, wt_d_ge (by omega)]
  · rw [G 162 (by decide) (by decide) (by decide) (by decide) (fun _ => rfl), G 163 (by decide) (by decide) (by decide) (by decide) (fun _ => rfl), G 164 (by decide) (by decide) (by decide) (by decide) (fun _ => rfl)]; exact h15
  · rw [G 169 (by decide) (by decide) (by decide) (by decide) (fun _ => rfl), wt_T_r (x := 7) (by decide) (by decide)]; exact h16
  · rw [G 160 (by decide) (by decide) (by decide) (by decide) (fun _ => rfl), wt_T_r (by omega) (by omega)]; exact h17 t ht
  · have hk' : (k : Int) < T 3 4 := hk
    exact (h18 k hk).cg (G 149 (by decide) (by decide) (by decide) (by decide) (fun _ => rfl)) (G 150 (by decide) (by decide) (by decide) (by decide) (fun _ => rfl))
  · rw [G 158 (by decide) (by decide) (by decide) (by decide) (fun _ => rfl)]; exact h19
theorem iv_tp {a : Nat} {t : Int} (h : ∀ x y, iv_scr x y = false → N x y = M x y) : iv_co M (tp_m N a t) := by
  intro x y e
  unfold tp_m
  rw [ma_cell_ne _ _ _ _ _ _ (by rintro ⟨rfl, rfl⟩; exact absurd e (by decide)), ma_cell_ne _ _ _ _ _ _ (by rintro ⟨rfl, rfl⟩; exact absurd e (by decide))]
  exact h x y e
theorem iv_md {a : Nat} {t : Int} (h : ∀ x y, iv_scr x y = false → N x y = M x y) : iv_co M (md_m N a t) := by
  intro x y e
  unfold md_m
  rw [ma_cell_ne _ _ _ _ _ _ (by rintro ⟨rfl, rfl⟩; exact absurd e (by decide)), ma_cell_ne _ _ _ _ _ _ (by rintro ⟨rfl, rfl⟩; exact absurd e (by decide))]
  exact h x y e
theorem iv_md0 : iv_co M (md_0 M) := ((iv_co.rf.up (i := 147) (k := 5) (nI 148) rfl).up (i := 147) (k := 8) (iI 0) rfl).up (i := 147) (k := 9) (M 147 6) rfl
theorem q_cwa : ∀ p : Nat, p < 4 → ¬ (iI 0 < 0 ∨ iI (((p : Nat) : Int) * 9) < 0 ∨ iI 9 < 0 ∨ 9 < (iI 0).toNatClampNeg + (iI 9).toNatClampNeg ∨ 36 < (iI (((p : Nat) : Int) * 9)).toNatClampNeg + (iI 9).toNatClampNeg) := by decide +kernel
theorem q_cwb : ∀ p : Nat, p < 4 → (iI (((p : Nat) : Int) * 9)).toNatClampNeg = 9 * p := by decide +kernel
theorem q_cw (M : gs_M) {p : Nat} (hp : p < 4) : gs_cpy M 97 9 (iI 0) 96 36 (iI (((p : Nat) : Int) * 9)) (iI 9) = some (gs_row M 96 (va_cpy (M 97) (M 96) 0 (9 * p) 9)) := by
  unfold gs_cpy
  rw [if_neg (q_cwa p hp), q_cwb p hp]
  rfl
theorem c_keep0 {n : Int} (h : M 1 1 = iI n) (hn : 0 ≤ n ∧ n ≤ 240) : f_X7_keep M (iI 0) = some (iI 1, gs_up M 1 1 (iI 0)) := by
  unfold f_X7_keep
  simp (disch := omega) only [qn0, qn1, qn2, qn3, qn4, qn5, qn6, qn7, qn8, qn9, qn10, qn11, qn12, qn13, qn14, qn15, qn16, qn17, qn18, qn24, qn30, qn31, qn32, qn33, qn36, qn38, qn40, qn41, qn42, qn43, qn45, qn47, qn48, qn49, qn50, qn51, qn52, qn53, qn57, qn58, qn59, qn60, qn61, qn62, qn63, qn91, qn93, qn97, qn99, qn100, qn103, qn104, qn112, qn113, qn115, qn116, qn118, qn119, qn121, qn124, qn173, qn177, qn240, qn255, qn295, qn352, qn353, qn533, qn999, qn1000, qn1023, qn6561, qn10000, qn20787, qn1000000, qn252645135, qn858993459, qn1000000000, qn1431655765, q_s1, q_s2, q_s3, q_s4, q_s5, iI_add, iI_sub, iI_mul, iI_neg, q_lt, q_le, q_eq, qz0, qz1, qz2, qz3, if_pos, if_neg, reduceIte, h]
/-- the class takes a WATCH -/
theorem c_addW (w : ma_wT T) (C : ma_C s T V M) (c : T 3 5 < 4) (hf : wt_f (T 4) (T 3 7).toNat = -1) : ∃ M1, f_X11_text M (iI 2) = some (iI (T 3 5 + 1 - 1), M1) ∧ (∀ x, 147 ≤ x → M1 x = M x) ∧ ma_C s (wt_T T (wt_r (T 4) (T 3 7).toNat).2.2 (wt_r (T 4) (T 3 7).toNat).2.1) V M1 := by
  obtain ⟨f1, f2, f3, f4, f5, f6, f7, f8, f9, f10, f11, f12, -⟩ := id w
  obtain ⟨N, a, e1, -, hN, hX⟩ := c_watch (tp_of w) (tp_ofC w C)
  rw [hf] at e1
  obtain ⟨K, hK⟩ : ∃ K : Nat, T 3 5 = K := ⟨(T 3 5).toNat, by omega⟩
  have hK' : (T 3 5).toNat = K := by omega
  have r95 : tp_m N a (-1) 95 2 = iI (K : Int) := by
    rw [tp_mr (by decide), hX 95 (by decide), C.wm, hK]
  have r95b : ∀ z : Nat → Int32, gs_row (tp_m N a (-1)) 96 z 95 2 = iI (K : Int) := fun z => by rw [ma_rowr_ne _ _ _ _ (by decide)]; exact r95
  have r0 : M 95 2 = iI (K : Int) := by rw [C.wm, hK]
  have e2 := q_cw (tp_m N a (-1)) (p := K) (by omega)
  have e3 : ∀ z : Nat → Int32, gs_up (gs_row (tp_m N a (-1)) 96 z) 95 2 (iI ((K : Int) + 1)) 1 1 = iI (T 3 7) := fun z => by
    rw [ma_cell_ne _ _ _ _ _ _ (by decide), ma_rowr_ne _ _ _ _ (by decide), tp_m1, hX 1 (by decide), C.ta]
  have e4 := fun z => c_keep0 (e3 z) (by omega)
  have e5 : ∀ z : Nat → Int32, gs_up (gs_row (tp_m N a (-1)) 96 z) 95 2 (iI ((K : Int) + 1)) 95 2 = iI ((K : Int) + 1) := fun z => gs_up_eq _ _ _ _
  refine ⟨gs_up (gs_up (gs_row (tp_m N a (-1)) 96 (va_cpy (tp_m N a (-1) 97) (tp_m N a (-1) 96) 0 (9 * K) 9)) 95 2 (iI ((K : Int) + 1))) 1 1 (iI 0), ?_, fun x hx => ?_, ?_⟩
  · rw [hK]
    unfold f_X11_text f_X10_add
    simp (disch := omega) only [qn0, qn1, qn2, qn3, qn4, qn5, qn6, qn7, qn8, qn9, qn10, qn11, qn12, qn13, qn14, qn15, qn16, qn17, qn18, qn24, qn30, qn31, qn32, qn33, qn36, qn38, qn40, qn41, qn42, qn43, qn45, qn47, qn48, qn49, qn50, qn51, qn52, qn53, qn57, qn58, qn59, qn60, qn61, qn62, qn63, qn91, qn93, qn97, qn99, qn100, qn103, qn104, qn112, qn113, qn115, qn116, qn118, qn119, qn121, qn124, qn173, qn177, qn240, qn255, qn295, qn352, qn353, qn533, qn999, qn1000, qn1023, qn6561, qn10000, qn20787, qn1000000, qn252645135, qn858993459, qn1000000000, qn1431655765, q_s1, q_s2, q_s3, q_s4, q_s5, iI_add, iI_sub, iI_mul, iI_neg, q_lt, q_le, q_eq, qz0, qz1, qz2, qz3, if_pos, if_neg, reduceIte, r0, e1, r95, r95b, e2, e4, e5]
  · rw [ma_row_ne _ _ _ _ _ (by omega), ma_row_ne _ _ _ _ _ (by omega), ma_rowr_ne _ _ _ _ (by omega), tp_mr (by omega), hX x (by omega)]
  · refine C.wtx w (fun x y hx hs x1 x2 x3 => ?_) ?_ (gs_up_eq _ _ _ _) (fun h hh => ?_) (fun y hy => ?_)
    · rw [ma_cell_ne _ _ _ _ _ _ x3, ma_cell_ne _ _ _ _ _ _ x2, ma_rowr_ne _ _ _ _ x1]
      exact iv_tp (fun x y e => by rw [hX x (by rintro rfl; exact absurd e (by simp [iv_scr]))]) x y hs
    · rw [ma_cell_ne _ _ _ _ _ _ (by decide), e5, hK]
    · rw [hK', ma_row_ne _ _ _ _ _ (by decide), ma_row_ne _ _ _ _ _ (by decide), ma_rowr_eq]
      show (if 9 * K ≤ 9 * K + h ∧ 9 * K + h < 9 * K + 9 then tp_m N a (-1) 97 (0 + (9 * K + h - 9 * K)) else _) = _
      rw [if_pos (by omega), show 0 + (9 * K + h - 9 * K) = h by omega, tp_mr (by decide)]
      exact hN h hh
    · rw [hK'] at hy
      rw [ma_row_ne _ _ _ _ _ (by decide), ma_row_ne _ _ _ _ _ (by decide), ma_rowr_eq]
      show (if 9 * K ≤ y ∧ y < 9 * K + 9 then _ else tp_m N a (-1) 96 y) = _
      rw [if_neg (by omega), tp_mr (by decide), hX 96 (by decide)]
end TextW
