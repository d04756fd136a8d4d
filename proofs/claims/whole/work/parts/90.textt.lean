/-! a TOWN taken: what it leaves -/
def tw_s (p : Nat) (D : Nat → Int) : Nat → Int := fun k => if k < 6 * p then (if k % 6 = 0 then D (5 * (k / 6)) else if k % 6 = 1 then D (5 * (k / 6) + 2) else if k % 6 = 2 then D (5 * (k / 6) + 3) else 0) else 0
def tw_TT (T : Nat → Nat → Int) (y : tw_T) : Nat → Nat → Int := fun x k => if x = 1 then y.2.2.2.1 k else if x = 2 then y.2.2.2.2 k else if x = 3 then (if k = 0 then (y.2.2.1 : Int) else if k = 6 ∨ k = 7 ∨ k = 8 ∨ k = 9 then 0 else T 3 k) else T x k
section TextT
variable {s : Nat → Int} {T : Nat → Nat → Int} {V : ma_V} {M M1 N : gs_M} {L : gs_L} {D : Nat → Int} {p i k n : Nat} {y : tw_T}
theorem tw_s_z : tw_s 0 D k = 0 := if_neg (by omega)
theorem tw_s_o (h : 6 * p ≤ k) : tw_s p D k = 0 := if_neg (by omega)
theorem tw_s_a (h : i < p) : tw_s p D (6 * i) = D (5 * i) := by
  unfold tw_s
  rw [if_pos (by omega), if_pos (by omega)]
  congr 2
  omega
theorem tw_s_b (h : i < p) : tw_s p D (6 * i + 1) = D (5 * i + 2) := by
  unfold tw_s
  rw [if_pos (by omega), if_neg (by omega), if_pos (by omega)]
  congr 3
  omega
theorem tw_s_c (h : i < p) : tw_s p D (6 * i + 2) = D (5 * i + 3) := by
  unfold tw_s
  rw [if_pos (by omega), if_neg (by omega), if_neg (by omega), if_pos (by omega)]
  congr 3
  omega
theorem tw_s_d (h : 3 ≤ k % 6) : tw_s p D k = 0 := by
  unfold tw_s
  split
  · rw [if_neg (by omega), if_neg (by omega), if_neg (by omega)]
  · rfl
theorem tw_s_n (h : k ≠ 6 * i) (h1 : k ≠ 6 * i + 1) (h2 : k ≠ 6 * i + 2) : tw_s (i + 1) D k = tw_s i D k := by
  by_cases c : k < 6 * i
  · unfold tw_s
    rw [if_pos (by omega), if_pos c]
  · rw [tw_s_o (p := i) (by omega)]
    by_cases c2 : k < 6 * i + 6
    · exact tw_s_d (by omega)
    · exact tw_s_o (by omega)
theorem tw_s_w (hp : p ≤ 8) (h : ∀ i k, i < p → k < 5 → it_lo1 k ≤ D (5 * i + k) ∧ D (5 * i + k) ≤ it_hi1 k) : ma_ws (tw_s p D) := by
  have hz : ∀ k, 48 ≤ k → tw_s p D k = 0 := fun k hk => tw_s_o (by omega)
  refine ⟨fun q hq => ?_, ?_, ?_, ?_, fun i hi => ?_, fun i hi => ?_⟩
  · unfold ma_one
    rw [tw_s_d (k := 6 * q + 3) (by omega), tw_s_d (k := 6 * q + 4) (by omega), tw_s_d (k := 6 * q + 5) (by omega)]
    by_cases c : q < p
    · rw [tw_s_a c, tw_s_b c, tw_s_c c]
      have h0 := h q 0 c (by decide)
      have h2 := h q 2 c (by decide)
      have h3 := h q 3 c (by decide)
      simp only [it_lo1, it_hi1, Nat.add_zero] at h0 h2 h3
      rw [if_neg (by decide)] at h0 h2 h3
      omega
    · rw [tw_s_o (k := 6 * q) (by omega), tw_s_o (k := 6 * q + 1) (by omega), tw_s_o (k := 6 * q + 2) (by omega)]
      omega
  · rw [hz 48 (by omega)]; omega
  · rw [hz 51 (by omega)]; omega
  · rw [hz 352 (by omega)]; omega
  · rw [hz 51 (by omega)] at hi; omega
  · rw [hz 352 (by omega)] at hi; omega
theorem tw_TT_r {x : Nat} (h1 : x ≠ 1) (h2 : x ≠ 2) (h3 : x ≠ 3) : tw_TT T y x = T x := by
  funext k
  unfold tw_TT
  rw [if_neg h1, if_neg h2, if_neg h3]
theorem tw_cp_s {p : Nat} {D : Nat → Int} (hD : ∀ i, i < p → 0 ≤ D (5 * i + 4) ∧ D (5 * i + 4) ≤ 8) : ∀ d i : Nat, i + d = p → tw_cp p D d i = true → ∀ j, i ≤ j → j < p → D (5 * j + 4) = 8 ∨ (0 ≤ D (5 * j + 4) ∧ D (5 * j + 4) < p) := by
  intro d
  induction d with
  | zero =>
    intro i hi h j h1 h2
    omega
  | succ d ih =>
    intro i hi h j h1 h2
    have h8 := hD i (by omega)
    by_cases c : D (5 * i + 4) = 8
    · rw [tw_cp_8 c] at h
      by_cases cj : j = i
      · subst cj
        exact Or.inl c
      · exact ih (i + 1) (by omega) h j (by omega) h2
    · by_cases c2 : D (5 * i + 4) = i ∨ (p : Int) ≤ D (5 * i + 4) ∨ D (5 * (D (5 * i + 4)).toNat + 4) ≠ i
      · rw [tw_cp_f c c2] at h
        cases h
      · rw [tw_cp_y c c2] at h
        by_cases cj : j = i
        · subst cj
          right
          omega
        · exact ih (i + 1) (by omega) h j (by omega) h2
theorem tw_TT_w (w : ma_wT T) (B : tw_b n y) (hp : 0 < y.2.2.1) (hc : tw_cp y.2.2.1 y.2.2.2.2 y.2.2.1 0 = true) : ma_wT (tw_TT T y) := by
  obtain ⟨h1, h2, h3, h4, h5, h6, h7, h8, h9, h10, h11, h12, h13, h14, h15, h16, h17, h18, h19⟩ := w
  obtain ⟨b1, b2, b3, b4, b5, b6⟩ := B
  have c0 := b5 0 (by decide)
  have c1 := b5 1 (by decide)
  have c2 := b5 2 (by decide)
  have d0 : it_lo0 0 = 1 ∧ it_hi0 0 = 9 ∧ it_lo0 1 = 1 ∧ it_hi0 1 = 30 ∧ it_lo0 2 = 0 ∧ it_hi0 2 = 9 := by decide
  have e0 : tw_TT T y 1 0 = y.2.2.2.1 0 := rfl
  have e1 : tw_TT T y 1 1 = y.2.2.2.1 1 := rfl
  have e2 : tw_TT T y 1 2 = y.2.2.2.1 2 := rfl
  have e3 : tw_TT T y 3 0 = (y.2.2.1 : Int) := rfl
  have hs := tw_cp_s (fun i hi => b6 i 4 hi (by decide)) y.2.2.1 0 (by omega) hc
  refine ⟨by rw [e3]; omega, by rw [e0, e3]; omega, by rw [e1]; omega, by rw [e2]; omega, fun q hq => ?_, h6, h7, h8, h9, h10, ⟨Int.le_refl 0, show (0 : Int) ≤ 12 by decide⟩, ⟨Int.le_refl 0, show (0 : Int) ≤ 240 by decide⟩, ⟨Int.le_refl 0, show (0 : Int) ≤ 1 by decide⟩, ⟨Int.le_refl 0, show (0 : Int) ≤ 40 by decide⟩, fun k hk => ?_, h16, fun k hk => ?_, fun hk => ?_, fun k hk => ?_⟩
  · have hq' : (q : Int) < (y.2.2.1 : Int) := hq
    have q1 := b6 q 1 (by omega) (by decide)
    have q4 := hs q (by omega) (by omega)
    have z1 : it_lo1 1 = 0 ∧ it_hi1 1 = 9 := by decide
    show 0 ≤ y.2.2.2.2 (5 * q + 1) ∧ y.2.2.2.2 (5 * q + 1) ≤ 9 ∧ (y.2.2.2.2 (5 * q + 4) = 8 ∨ (0 ≤ y.2.2.2.2 (5 * q + 4) ∧ y.2.2.2.2 (5 * q + 4) < (y.2.2.1 : Int)))
    exact ⟨by omega, by omega, q4⟩
  · have hk' : (k : Int) < 0 := hk
    omega
  · have hk' : (k : Int) < 0 := hk
    omega
  · have hk' : (0 : Int) = 1 := hk
    omega
  · have hk' : (k : Int) < 0 := hk
    omega
theorem tw_TT_V (h : ma_wV T V) : ma_wV (tw_TT T y) V := h
theorem ma_C.twx (w : ma_wT T) (C : ma_C s T V M) (k : ∀ x z, x ≤ 146 → iv_scr x z = false → x ≠ 3 → x ≠ 4 → x ≠ 5 → x ≠ 10 → ¬ (x = 13 ∧ z = 2) → ¬ (x = 134 ∧ z = 7) → ¬ (x = 0 ∧ z = 14) → ¬ (x = 1 ∧ z = 1) → M1 x z = M x z)
    (e1 : M1 3 2 = iI (y.2.2.1 : Nat)) (e2 : ∀ k, k < 3 → M1 4 k = iI (y.2.2.2.1 k)) (e3 : ∀ k, k < 5 * y.2.2.1 → M1 5 k = iI (y.2.2.2.2 k)) (e4 : M1 134 7 = iI 0) (e5 : M1 1 1 = iI 0) (e6 : M1 0 14 = iI 0) (e7 : M1 13 2 = iI 0) (e8 : ∀ k, k < 173 → M1 10 k = iI (tw_s y.2.2.1 y.2.2.2.2 k)) (hp : y.2.2.1 ≤ 8) : ma_C (tw_s y.2.2.1 y.2.2.2.2) (tw_TT T y) V M1 := by
  obtain ⟨h1, h2, h3, h4, h5, h6, h7, h8, h9, h10, h11, h12, h13, h14, h15, h16, ⟨nx, h17, h18, h19⟩, h20, h21⟩ := C
  obtain ⟨-, -, -, -, -, -, -, w8, -⟩ := w
  have G : ∀ x, x ≤ 146 → x ≠ 3 → x ≠ 4 → x ≠ 5 → x ≠ 10 → x ≠ 13 → x ≠ 134 → x ≠ 0 → x ≠ 1 → (∀ b, iv_scr x b = false) → M1 x = M x := fun x hx a1 a2 a3 a4 a5 a6 a7 a8 hs => funext fun b => k x b hx (hs b) a1 a2 a3 a4 (fun z => a5 z.1) (fun z => a6 z.1) (fun z => a7 z.1) (fun z => a8 z.1)
  have g105 : M1 105 = M 105 := G 105 (by decide) (by decide) (by decide) (by decide) (by decide) (by decide) (by decide) (by decide) (by decide) (fun _ => rfl)
  have g95 : M1 95 = M 95 := G 95 (by decide) (by decide) (by decide) (by decide) (by decide) (by decide) (by decide) (by decide) (by decide) (fun _ => rfl)
  have g96 : M1 96 = M 96 := G 96 (by decide) (by decide) (by decide) (by decide) (by decide) (by decide) (by decide) (by decide) (by decide) (fun _ => rfl)
  refine ⟨e1, e2, fun k hk => ?_, ?_, ?_, ?_, ?_, ?_, e4, e5, e6, e7, fun k hk => ?_, ?_, fun k hk => ?_, fun hk => ?_, ⟨nx, h17, ?_, fun t ht => ?_⟩, fun k hk => ?_, ?_⟩
  · have hk' : (k : Int) < 5 * (y.2.2.1 : Int) := hk
    exact e3 k (by omega)
  · rw [k 0 15 (by decide) rfl (by decide) (by decide) (by decide) (by decide) (by decide) (by decide) (by decide) (by decide)]; exact h4
  · rw [g105]; exact h5
  · rw [g95]; exact h6
  · rw [g105]; exact h7
  · rw [g95]; exact h8
  · have hk' : (k : Int) < 0 := hk
    omega
  · rw [g96]; exact h14
  · have hk' : (k : Int) < 0 := hk
    omega
  · have hk' : (0 : Int) = 1 := hk
    omega
  · rw [k 13 1 (by decide) rfl (by decide) (by decide) (by decide) (by decide) (by decide) (by decide) (by decide) (by decide)]; exact h18
  · have hk' : (t : Int) < 0 := ht
    omega
  · have hk' : (k : Int) < T 3 4 := hk
    exact (h20 k hk).cg (fun r r1 r2 => G r (by omega) (by omega) (by omega) (by omega) (by omega) (by omega) (by omega) (by omega) (by omega) (iv_scr_law (by omega) r1 r2))
  · have hz : ∀ k, 48 ≤ k → tw_s y.2.2.1 y.2.2.2.2 k = 0 := fun k hk => tw_s_o (by omega)
    refine ⟨fun k hk => e8 k (by omega), e8 51 (by decide), ?_, fun i hi => ?_, fun i hi => ?_⟩
    · rw [e8 52 (by decide), hz 52 (by decide), hz 352 (by decide)]
    · rw [hz 51 (by decide)] at hi
      omega
    · rw [hz 352 (by decide)] at hi
      omega
theorem ma_M.twx (w : ma_wT T) (D : ma_M s T V M) (k : ∀ x z, 147 ≤ x → iv_scr x z = false → x ≠ 152 → x ≠ 154 → x ≠ 158 → ¬ (x = 147 ∧ (z = 24 ∨ z = 40 ∨ z = 6 ∨ z = 46 ∨ z = 35)) → M1 x z = M x z)
    (e1 : M1 147 24 = iI (y.2.2.1 : Nat)) (e2 : ∀ k, k < 3 → M1 152 k = iI (y.2.2.2.1 k)) (e3 : ∀ k, k < 5 * y.2.2.1 → M1 154 k = iI (y.2.2.2.2 k)) (e4 : M1 147 40 = iI 0) (e5 : M1 147 6 = iI 0) (e6 : M1 147 46 = iI 0) (e7 : M1 147 35 = iI 0) (e8 : ∀ k, k < 533 → M1 158 k = iI (tw_s y.2.2.1 y.2.2.2.2 k)) : ma_M (tw_s y.2.2.1 y.2.2.2.2) (tw_TT T y) V M1 := by
  obtain ⟨h1, h2, h3, h4, h5, h6, h7, h8, h9, h10, h11, h12, h13, h14, h15, h16, h17, h18, h19⟩ := D
  obtain ⟨-, -, -, -, -, -, -, w8, -, w10, -⟩ := w
  have G : ∀ x, 147 ≤ x → x ≠ 152 → x ≠ 154 → x ≠ 158 → x ≠ 147 → (∀ b, iv_scr x b = false) → M1 x = M x := fun x hx a1 a2 a3 a4 hs => funext fun b => k x b hx (hs b) a1 a2 a3 (fun z => a4 z.1)
  refine ⟨e1, e2, fun k hk => ?_, ?_, ?_, ?_, ?_, ?_, e4, e5, e6, e7, fun k hk => ?_, fun w hw => ?_, fun k hk => ?_, fun hk => ?_, fun t ht => ?_, fun k hk => ?_, e8⟩
  · have hk' : (k : Int) < 5 * (y.2.2.1 : Int) := hk
    exact e3 k (by omega)
  · rw [k 147 31 (by decide) rfl (by decide) (by decide) (by decide) (by decide)]; exact h4
  · rw [k 147 29 (by decide) rfl (by decide) (by decide) (by decide) (by decide)]; exact h5
  · rw [k 147 30 (by decide) rfl (by decide) (by decide) (by decide) (by decide)]; exact h6
  · rw [k 147 7 (by decide) rfl (by decide) (by decide) (by decide) (by decide)]; exact h7
  · rw [k 147 26 (by decide) rfl (by decide) (by decide) (by decide) (by decide)]; exact h8
  · have hk' : (k : Int) < 0 := hk
    omega
  · have hw' : (w : Int) < T 3 5 := hw
    obtain ⟨n, g1, g2, g3⟩ := h14 w hw
    refine ⟨n, g1, by rw [k 157 w (by decide) (iv_scr_157 (by omega)) (by decide) (by decide) (by decide) (by omega)]; exact g2, fun q hq => ?_⟩
    rw [k 156 (9 * w + q) (by decide) (iv_scr_156 (by omega)) (by decide) (by decide) (by decide) (by omega)]
    exact g3 q hq
  · have hk' : (k : Int) < 0 := hk
    omega
  · have hk' : (0 : Int) = 1 := hk
    omega
  · have hk' : (t : Int) < 0 := ht
    omega
  · have hk' : (k : Int) < T 3 4 := hk
    exact (h18 k hk).cg (G 149 (by decide) (by decide) (by decide) (by decide) (by decide) (fun _ => rfl)) (G 150 (by decide) (by decide) (by decide) (by decide) (by decide) (fun _ => rfl))
end TextT
