/-! a LAW taken from the TAPE: frames -/
def lr_le (g c w t h a : Int) : Nat → Int := fun i => if i = 0 then g else if i = 1 then c else if i = 2 then w else if i = 3 then t else if i = 4 then h else a
def lw_T (T : Nat → Nat → Int) : Nat → Nat → Int := fun x y => if x = 3 ∧ y = 7 then 0 else if x = 3 ∧ y = 4 then T 3 4 + 1 else T x y
def lw_V (V : ma_V) (K : Nat) (l : List lr_L) : ma_V := fun k kd g c w t h a => if k = K then lr_wo kd (lr_le g c w t h a) l else V k kd g c w t h a
theorem lr_le_b {g c w t h a : Int} (hi : ma_in g c w t h a) : ∀ i, i < 6 → -1000000 ≤ lr_le g c w t h a i ∧ lr_le g c w t h a i ≤ 1000000 := by
  intro i hi6
  obtain ⟨h1, h2, h3, h4, h5, h6⟩ := hi
  unfold lr_le
  repeat' split
  all_goals omega
section Law25
variable {s : Nat → Int} {T : Nat → Nat → Int} {V : ma_V} {M M1 N : gs_M} {L : gs_L} {l : List lr_L} {K : Nat}
theorem lw_T_r {x : Nat} (h : x ≠ 3) : lw_T T x = T x := by
  funext y
  unfold lw_T
  rw [if_neg (fun z => h z.1), if_neg (fun z => h z.1)]
theorem lw_T_w (w : ma_wT T) (c : T 3 4 < 4) : ma_wT (lw_T T) := by
  obtain ⟨h1, h2, h3, h4, h5, h6, h7, h8, h9, h10, h11, h12, h13, h14, h15, h16, h17, h18, h19⟩ := id w
  refine ⟨h1, h2, h3, h4, h5, h6, ⟨h7.1, ?_⟩, ⟨?_, ?_⟩, h9, h10, h11, ⟨Int.le_refl 0, show (0 : Int) ≤ 240 by decide⟩, h13, h14, fun k hk => ?_, h16, h17, h18, fun t ht => ?_⟩
  · show T 3 2 < T 3 4 + 1
    omega
  · show 0 ≤ T 3 4 + 1
    omega
  · show T 3 4 + 1 ≤ 4
    omega
  · have hk' : (k : Int) < 0 := hk
    omega
  · rw [lw_T_r (by omega)]
    exact h19 t ht
theorem lw_T_V (h : ma_wV T V) (hK : (K : Int) = T 3 4) (ho : ∀ x ∈ l, lr_ok x) : ma_wV (lw_T T) (lw_V V K l) := by
  intro k kd g c w t h0 a hk hkd hin
  have hk' : (k : Int) < T 3 4 + 1 := hk
  unfold lw_V
  by_cases c2 : k = K
  · rw [if_pos c2]
    exact lr_wo_b (lr_le_b hin) l ho
  · rw [if_neg c2]
    exact h k kd g c w t h0 a (by omega) hkd hin
theorem lw_V_n {k : Nat} (h : k ≠ K) : lw_V V K l k = V k := by
  funext kd g c w t h0 a
  exact if_neg h
theorem ma_lC.vv {V' : ma_V} {k : Nat} (h : ma_lC V k M) (e : V' k = V k) : ma_lC V' k M := by
  intro kd g0 c0 w0 t0 h0 a0 e1 e2 M2 e3
  rw [e]
  exact h kd g0 c0 w0 t0 h0 a0 e1 e2 M2 e3
theorem ma_lM.vv {V' : ma_V} {k : Nat} (h : ma_lM V k M) (e : V' k = V k) : ma_lM V' k M := by
  intro kd g0 c0 w0 t0 h0 a0 e1 e2 M2 e3
  rw [e]
  exact h kd g0 c0 w0 t0 h0 a0 e1 e2 M2 e3
theorem ma_lM.c2 {k : Nat} (h : ma_lM V k M) (e : ∀ i, 240 * k ≤ i → i < 240 * k + 240 → M1 149 i = M 149 i) (e' : M1 150 k = M 150 k) : ma_lM V k M1 := by
  intro kd g0 c0 w0 t0 h0 a0 e1 e2 M2 e3
  rw [e']
  exact h kd g0 c0 w0 t0 h0 a0 e1 e2 M2 (fun i i1 i2 => (e3 i i1 i2).trans (e i i1 i2))
theorem ma_C.lfx (w : ma_wT T) (C : ma_C s T V M) (hK : (K : Int) = T 3 4) (k : ∀ x y, x ≤ 146 → iv_scr x y = false → ¬ (108 + 6 * K ≤ x ∧ x < 113 + 6 * K) → M1 x y = M x y) (hK4 : K < 4) : ma_C s T V M1 := by
  obtain ⟨h1, h2, h3, h4, h5, h6, h7, h8, h9, h10, h11, h12, h13, h14, h15, h16, ⟨nx, h17, h18, h19⟩, h20, h21⟩ := C
  have G : ∀ x, x ≤ 146 → ¬ (108 + 6 * K ≤ x ∧ x < 113 + 6 * K) → (∀ b, iv_scr x b = false) → M1 x = M x := fun x hx a1 hs => funext fun b => k x b hx (hs b) a1
  refine ⟨?_, ?_, ?_, ?_, ?_, ?_, ?_, ?_, ?_, ?_, ?_, ?_, ?_, ?_, ?_, ?_, ⟨nx, h17, ?_, fun t ht => ?_⟩, fun k hk => ?_, ?_⟩
  · rw [G 3 (by decide) (by omega) (fun _ => rfl)]; exact h1
  · rw [G 4 (by decide) (by omega) (fun _ => rfl)]; exact h2
  · rw [G 5 (by decide) (by omega) (fun _ => rfl)]; exact h3
  · rw [G 0 (by decide) (by omega) (fun _ => rfl)]; exact h4
  · rw [G 105 (by decide) (by omega) (fun _ => rfl)]; exact h5
  · rw [G 95 (by decide) (by omega) (fun _ => rfl)]; exact h6
  · rw [G 105 (by decide) (by omega) (fun _ => rfl)]; exact h7
  · rw [G 95 (by decide) (by omega) (fun _ => rfl)]; exact h8
  · rw [k 134 7 (by decide) rfl (by omega)]; exact h9
  · rw [k 1 1 (by decide) rfl (by omega)]; exact h10
  · rw [G 0 (by decide) (by omega) (fun _ => rfl)]; exact h11
  · rw [G 13 (by decide) (by omega) (fun _ => rfl)]; exact h12
  · rw [G 2 (by decide) (by omega) (fun _ => rfl)]; exact h13
  · rw [G 96 (by decide) (by omega) (fun _ => rfl)]; exact h14
  · rw [G 135 (by decide) (by omega) (fun _ => rfl), G 136 (by decide) (by omega) (fun _ => rfl), G 137 (by decide) (by omega) (fun _ => rfl)]; exact h15
  · rw [G 12 (by decide) (by omega) (fun _ => rfl)]; exact h16
  · rw [G 13 (by decide) (by omega) (fun _ => rfl)]; exact h18
  · rw [G _ (by omega) (by omega) (iv_scr_act (Nat.mod_lt _ (by decide)))]
    exact h19 t ht
  · exact (h20 k hk).cg (fun r r1 r2 => G r (by omega) (by omega) (iv_scr_law (by omega) r1 r2))
  · rw [G 10 (by decide) (by omega) (fun _ => rfl)]; exact h21
theorem ma_C.ltx (w : ma_wT T) (C : ma_C s T V M) (hK : (K : Int) = T 3 4) (hK4 : K < 4) (k : ∀ x y, x ≤ 146 → iv_scr x y = false → ¬ (108 + 6 * K ≤ x ∧ x < 113 + 6 * K) → ¬ (x = 105 ∧ y = 4) → ¬ (x = 1 ∧ y = 1) → M1 x y = M x y) (e1 : M1 105 4 = iI (T 3 4 + 1)) (e2 : M1 1 1 = iI 0) (e3 : ma_lC (lw_V V K l) K M1) : ma_C s (lw_T T) (lw_V V K l) M1 := by
  obtain ⟨h1, h2, h3, h4, h5, h6, h7, h8, h9, h10, h11, h12, h13, h14, h15, h16, ⟨nx, h17, h18, h19⟩, h20, h21⟩ := C
  have G : ∀ x, x ≤ 146 → ¬ (108 + 6 * K ≤ x ∧ x < 113 + 6 * K) → x ≠ 105 → x ≠ 1 → (∀ b, iv_scr x b = false) → M1 x = M x := fun x hx a1 a2 a3 hs => funext fun b => k x b hx (hs b) a1 (fun z => a2 z.1) (fun z => a3 z.1)
  refine ⟨?_, ?_, ?_, ?_, ?_, ?_, e1, ?_, ?_, e2, ?_, ?_, fun k hk => ?_, ?_, ?_, ?_, ⟨nx, h17, ?_, fun t ht => ?_⟩, fun k hk => ?_, ?_⟩
  · rw [G 3 (by decide) (by omega) (by decide) (by decide) (fun _ => rfl)]; exact h1
  · rw [G 4 (by decide) (by omega) (by decide) (by decide) (fun _ => rfl)]; exact h2
  · rw [G 5 (by decide) (by omega) (by decide) (by decide) (fun _ => rfl)]; exact h3
  · rw [G 0 (by decide) (by omega) (by decide) (by decide) (fun _ => rfl)]; exact h4
  · rw [k 105 5 (by decide) rfl (by omega) (by decide) (by decide)]; exact h5
  · rw [G 95 (by decide) (by omega) (by decide) (by decide) (fun _ => rfl)]; exact h6
  · rw [G 95 (by decide) (by omega) (by decide) (by decide) (fun _ => rfl)]; exact h8
  · rw [k 134 7 (by decide) rfl (by omega) (by decide) (by decide)]; exact h9
  · rw [G 0 (by decide) (by omega) (by decide) (by decide) (fun _ => rfl)]; exact h11
  · rw [G 13 (by decide) (by omega) (by decide) (by decide) (fun _ => rfl)]; exact h12
  · have hk' : (k : Int) < 0 := hk
    omega
  · rw [G 96 (by decide) (by omega) (by decide) (by decide) (fun _ => rfl)]; exact h14
  · rw [G 135 (by decide) (by omega) (by decide) (by decide) (fun _ => rfl), G 136 (by decide) (by omega) (by decide) (by decide) (fun _ => rfl), G 137 (by decide) (by omega) (by decide) (by decide) (fun _ => rfl)]; exact h15
  · rw [G 12 (by decide) (by omega) (by decide) (by decide) (fun _ => rfl), lw_T_r (x := 7) (by decide)]; exact h16
  · rw [G 13 (by decide) (by omega) (by decide) (by decide) (fun _ => rfl)]; exact h18
  · rw [G _ (by omega) (by omega) (by omega) (by omega) (iv_scr_act (Nat.mod_lt _ (by decide))), lw_T_r (by omega)]
    exact h19 t ht
  · have hk' : (k : Int) < T 3 4 + 1 := hk
    by_cases c2 : k = K
    · subst c2
      exact e3
    · exact ((h20 k (by omega)).cg (fun r r1 r2 => G r (by omega) (by omega) (by omega) (by omega) (iv_scr_law (by omega) r1 r2))).vv (lw_V_n c2)
  · rw [G 10 (by decide) (by omega) (by decide) (by decide) (fun _ => rfl)]; exact h21
theorem ma_M.ltx (w : ma_wT T) (D : ma_M s T V M) (hK : (K : Int) = T 3 4) (k : ∀ x y, 147 ≤ x → iv_scr x y = false → x ≠ 149 → x ≠ 150 → ¬ (x = 147 ∧ (y = 7 ∨ y = 6)) → M1 x y = M x y) (e1 : M1 147 7 = iI (T 3 4 + 1)) (e2 : M1 147 6 = iI 0) (e4 : ∀ y, y < 240 * K → M1 149 y = M 149 y) (e5 : ∀ y, y < K → M1 150 y = M 150 y) (e3 : ma_lM (lw_V V K l) K M1) : ma_M s (lw_T T) (lw_V V K l) M1 := by
  obtain ⟨h1, h2, h3, h4, h5, h6, h7, h8, h9, h10, h11, h12, h13, h14, h15, h16, h17, h18, h19⟩ := D
  obtain ⟨-, -, -, -, -, -, -, w8, -, w10, -⟩ := w
  have G : ∀ x, 147 ≤ x → x ≠ 149 → x ≠ 150 → x ≠ 147 → (∀ b, iv_scr x b = false) → M1 x = M x := fun x hx a1 a2 a3 hs => funext fun b => k x b hx (hs b) a1 a2 (fun z => a3 z.1)
  refine ⟨?_, ?_, ?_, ?_, ?_, ?_, e1, ?_, ?_, e2, ?_, ?_, fun k hk => ?_, fun w hw => ?_, ?_, ?_, fun t ht => ?_, fun k hk => ?_, ?_⟩
  · rw [k 147 24 (by decide) rfl (by decide) (by decide) (by decide)]; exact h1
  · rw [G 152 (by decide) (by decide) (by decide) (by decide) (fun _ => rfl)]; exact h2
  · rw [G 154 (by decide) (by decide) (by decide) (by decide) (fun _ => rfl)]; exact h3
  · rw [k 147 31 (by decide) rfl (by decide) (by decide) (by decide)]; exact h4
  · rw [k 147 29 (by decide) rfl (by decide) (by decide) (by decide)]; exact h5
  · rw [k 147 30 (by decide) rfl (by decide) (by decide) (by decide)]; exact h6
  · rw [k 147 26 (by decide) rfl (by decide) (by decide) (by decide)]; exact h8
  · rw [k 147 40 (by decide) rfl (by decide) (by decide) (by decide)]; exact h9
  · rw [k 147 46 (by decide) rfl (by decide) (by decide) (by decide)]; exact h11
  · rw [k 147 35 (by decide) rfl (by decide) (by decide) (by decide)]; exact h12
  · have hk' : (k : Int) < 0 := hk
    omega
  · obtain ⟨n, g1, g2, g3⟩ := h14 w hw
    have hw' : (w : Int) < T 3 5 := hw
    refine ⟨n, g1, by rw [k 157 w (by decide) (iv_scr_157 (by omega)) (by decide) (by decide) (by omega)]; exact g2, fun q hq => ?_⟩
    rw [k 156 (9 * w + q) (by decide) (iv_scr_156 (by omega)) (by decide) (by decide) (by omega)]
    exact g3 q hq
  · rw [G 162 (by decide) (by decide) (by decide) (by decide) (fun _ => rfl), G 163 (by decide) (by decide) (by decide) (by decide) (fun _ => rfl), G 164 (by decide) (by decide) (by decide) (by decide) (fun _ => rfl)]; exact h15
  · rw [G 169 (by decide) (by decide) (by decide) (by decide) (fun _ => rfl), lw_T_r (x := 7) (by decide)]; exact h16
  · rw [G 160 (by decide) (by decide) (by decide) (by decide) (fun _ => rfl), lw_T_r (by omega)]; exact h17 t ht
  · have hk' : (k : Int) < T 3 4 + 1 := hk
    by_cases c2 : k = K
    · subst c2
      exact e3
    · exact ((h18 k (by omega)).c2 (fun i i1 i2 => e4 i (by omega)) (e5 k (by omega))).vv (lw_V_n c2)
  · rw [G 158 (by decide) (by decide) (by decide) (by decide) (fun _ => rfl)]; exact h19
theorem c_lawC (hK4 : K < 4) (hk : lr_K (108 + 6 * K) (lr_fl l) M1) (hE : lr_E (108 + 6 * K) l M1) (ho : ∀ x ∈ l, lr_ok x) (hc : (lr_fl l).length ≤ 240) (hl : l.length ≤ 61) : ma_lC (lw_V V K l) K M1 := by
  intro kd g c w t h a hkd hin M2 hrows h0 h1 h2 h3 h4 h5
  have e0 : lw_V V K l K kd g c w t h a = lr_wo kd (lr_le g c w t h a) l := if_pos rfl
  have k2 : lr_K (108 + 6 * K) (lr_fl l) M2 := by
    refine ⟨?_, fun j hj => ?_⟩
    · rw [hrows _ (by omega) (by omega)]
      exact hk.1
    · rw [hrows _ (by omega) (by omega)]
      exact hk.2 j hj
  have E2 : lr_E (108 + 6 * K) l M2 := by
    refine ⟨?_, fun j x hx => ?_⟩
    · rw [hrows _ (by omega) (by omega)]
      exact hE.1
    · rw [hrows _ (by omega) (by omega), hrows _ (by omega) (by omega), hrows _ (by omega) (by omega)]
      exact hE.2 j x hx
  obtain ⟨N', e1, hN⟩ := c_worth (r := 108 + 6 * K) (e := lr_le g c w t h a) (kd := kd) (by omega) k2 E2 ho hc hl hkd (fun j hj => by
    refine ⟨?_, lr_le_b hin j hj⟩
    match j, hj with
    | 0, _ => exact h0
    | 1, _ => exact h1
    | 2, _ => exact h2
    | 3, _ => exact h3
    | 4, _ => exact h4
    | 5, _ => exact h5)
  rw [e0]
  refine ⟨N', e1, fun x y hf => ?_⟩
  rw [hN x ?_]
  rintro rfl
  have : iv_fin (108 + 6 * K + 5) y = true := by
    match K, hK4 with
    | 0, _ => rfl
    | 1, _ => rfl
    | 2, _ => rfl
    | 3, _ => rfl
  rw [this] at hf
  cases hf
theorem lr_ix_c {z : Int} (h : lr_ix z ≠ -1) : z = 103 ∨ z = 99 ∨ z = 119 ∨ z = 116 ∨ z = 104 ∨ z = 97 := by
  unfold lr_ix at h
  repeat' split at h
  all_goals omega
theorem m_lawM {b : Nat → Int} {n : Nat} (w : tp_w b n) (hK4 : K < 4) (h149 : ∀ i, i < n → M1 149 (240 * K + i) = (iI (b i)).toInt8.toInt32) (h150 : M1 150 K = iI (n : Int)) (hal : lr_al b n 242 0 [] = .inr l) : ma_lM (lw_V V K l) K M1 := by
  intro kd g c w0 t h a hkd hin M2 hrows h0 h1 h2 h3 h4 h5
  have w1 := w.1
  have e0 : lw_V V K l K kd g c w0 t h a = lr_wo kd (lr_le g c w0 t h a) l := if_pos rfl
  have he : lm_e (lr_le g c w0 t h a) M2 := by
    refine ⟨fun i hi => ?_, fun z hz => ?_⟩
    · have := lr_le_b hin i hi
      omega
    · rcases lr_ix_c hz with rfl | rfl | rfl | rfl | rfl | rfl
      · exact h0
      · exact h1
      · exact h2
      · exact h3
      · exact h4
      · exact h5
  have hKm : md_K 149 (240 * K) b n (lm_0 M2 149 (iI (240 * (K : Int))) (iI (n : Int)) kd) := by
    refine ⟨Or.inr ⟨rfl, by omega⟩, rfl, ?_, rfl, fun i hi => ?_⟩
    · show iI (240 * (K : Int)) = iI ((240 * K : Nat) : Int)
      congr 1
    · unfold lm_0
      rw [ma_row_ne _ _ _ _ _ (by decide), ma_row_ne _ _ _ _ _ (by decide), ma_row_ne _ _ _ _ _ (by decide), ma_row_ne _ _ _ _ _ (by decide), hrows _ (by omega) (by omega)]
      exact h149 i hi
  obtain ⟨a', e1⟩ := (m_goT w (iI (240 * (K : Int))) (iI (n : Int)) hKm he hkd).2 l hal
  rw [e0, h150]
  refine ⟨_, e1, ?_, iv_lm _ _ _ _ _ _ _ _ _⟩
  rw [← lr_wf_v]
  unfold lm_m
  rw [md_mc (by decide) (by decide), ma_cell_ne _ _ _ _ _ _ (by decide)]
  exact gs_up_eq _ _ _ _
end Law25
