/-! LAMPS told; the TAPE fed -/
section Feed
variable {s : Nat → Int} {T : Nat → Nat → Int} {V : ma_V} {M : gs_M}
def ma_la (T : Nat → Nat → Int) (p h b : Int) : Nat → Nat → Int := fun x => if x = 3 then (fun y => if y = 6 then T 3 6 + 1 else T 3 y) else if x = 6 then (fun y => if (y : Int) = 3 * T 3 6 then p else if (y : Int) = 3 * T 3 6 + 1 then h else if (y : Int) = 3 * T 3 6 + 2 then b else T 6 y) else T x
theorem ma_la_r {p h b : Int} {x : Nat} (hx : 7 ≤ x) : ma_la T p h b x = T x := by
  unfold ma_la
  rw [if_neg (by omega), if_neg (by omega)]
theorem ma_la_n {p h b : Int} {y : Nat} (hy : (y : Int) < 3 * T 3 6) : ma_la T p h b 6 y = T 6 y := by
  unfold ma_la
  rw [if_neg (by decide), if_pos rfl, if_neg (by omega), if_neg (by omega), if_neg (by omega)]
theorem ma_la_e {p h b : Int} {n : Nat} (hn : T 3 6 = n) : ma_la T p h b 6 (3 * n) = p ∧ ma_la T p h b 6 (3 * n + 1) = h ∧ ma_la T p h b 6 (3 * n + 2) = b := by
  unfold ma_la
  rw [if_neg (by decide), if_pos rfl]
  refine ⟨?_, ?_, ?_⟩
  · rw [if_pos (by omega)]
  · rw [if_neg (by omega), if_pos (by omega)]
  · rw [if_neg (by omega), if_neg (by omega), if_pos (by omega)]
theorem ma_wT.la (w : ma_wT T) {p h b : Int} (h12 : T 3 6 < 12) (hp : 0 ≤ p ∧ p < T 3 0) (hh : 0 ≤ h ∧ h < T 1 0) (hb : 0 ≤ b ∧ b ≤ 1) : ma_wT (ma_la T p h b) := by
  obtain ⟨h1, h2, h3, h4, h5, h6, h7, h8, h9, h10, h11, h12', h13, h14, h15, h16, h17, h18, h19⟩ := w
  refine ⟨h1, h2, h3, h4, h5, h6, h7, h8, h9, h10, ⟨by show 0 ≤ T 3 6 + 1; omega, by show T 3 6 + 1 ≤ 12; omega⟩, h12', h13, h14, h15, h16, fun i hi => ?_, h18, fun t ht => ?_⟩
  · have hi' : (i : Int) < T 3 6 + 1 := hi
    show 0 ≤ ma_la T p h b 6 (3 * i) ∧ ma_la T p h b 6 (3 * i) < T 3 0 ∧ 0 ≤ ma_la T p h b 6 (3 * i + 1) ∧ ma_la T p h b 6 (3 * i + 1) < T 1 0 ∧ 0 ≤ ma_la T p h b 6 (3 * i + 2) ∧ ma_la T p h b 6 (3 * i + 2) ≤ 1
    rcases (by omega : (i : Int) < T 3 6 ∨ T 3 6 = i) with c | c
    · rw [ma_la_n (by omega), ma_la_n (by omega), ma_la_n (by omega)]
      exact h17 i c
    · obtain ⟨e1, e2, e3⟩ := ma_la_e (p := p) (h := h) (b := b) c
      rw [e1, e2, e3]
      omega
  · rw [ma_la_r (by omega)]; exact h19 t ht
theorem c_la (W : ma_W s T V) (C : ma_C s T V M) {p h b : Int} {n : Nat} (hn : T 3 6 = n) : ma_C s (ma_la T p h b) V (gs_up (gs_up (gs_up (gs_up M 135 n (iI p)) 136 n (iI h)) 137 n (iI b)) 134 7 (iI (n + 1))) := by
  obtain ⟨h1, h2, h3, h4, h5, h6, h7, h8, h9, h10, h11, h12, h13, h14, h15, h16, ⟨nx, h17, h18, h19⟩, h20, h21⟩ := C
  have w8 : 0 ≤ T 3 4 ∧ T 3 4 ≤ 4 := W.2.1.2.2.2.2.2.2.2.1
  have R : ∀ r, r ≠ 134 → r ≠ 135 → r ≠ 136 → r ≠ 137 → gs_up (gs_up (gs_up (gs_up M 135 n (iI p)) 136 n (iI h)) 137 n (iI b)) 134 7 (iI (n + 1)) r = M r := fun r r1 r2 r3 r4 => by
    rw [ma_row_ne _ _ _ _ _ r1, ma_row_ne _ _ _ _ _ r4, ma_row_ne _ _ _ _ _ r3, ma_row_ne _ _ _ _ _ r2]
  refine ⟨h1, h2, h3, h4, h5, h6, h7, h8, ?_, h10, h11, h12, h13, h14, fun i hi => ?_, h16, ⟨nx, h17, h18, fun t ht => ?_⟩, fun k hk => (h20 k hk).cg (fun r r1 r2 => ?_), h21⟩
  · show _ = iI (T 3 6 + 1)
    rw [gs_up_eq, hn]
  · have hi' : (i : Int) < T 3 6 + 1 := hi
    rcases (by omega : (i : Int) < T 3 6 ∨ T 3 6 = i) with c | c
    · rw [ma_la_n (by omega), ma_la_n (by omega), ma_la_n (by omega)]
      obtain ⟨a1, a2, a3⟩ := h15 i c
      refine ⟨?_, ?_, ?_⟩
      · rw [ma_cell_ne _ _ _ _ _ _ (by omega), ma_cell_ne _ _ _ _ _ _ (by omega), ma_cell_ne _ _ _ _ _ _ (by omega), ma_cell_ne _ _ _ _ _ _ (by omega), a1]
      · rw [ma_cell_ne _ _ _ _ _ _ (by omega), ma_cell_ne _ _ _ _ _ _ (by omega), ma_cell_ne _ _ _ _ _ _ (by omega), ma_cell_ne _ _ _ _ _ _ (by omega), a2]
      · rw [ma_cell_ne _ _ _ _ _ _ (by omega), ma_cell_ne _ _ _ _ _ _ (by omega), ma_cell_ne _ _ _ _ _ _ (by omega), ma_cell_ne _ _ _ _ _ _ (by omega), a3]
    · have en : n = i := by omega
      subst en
      obtain ⟨e1, e2, e3⟩ := ma_la_e (p := p) (h := h) (b := b) hn
      rw [e1, e2, e3]
      refine ⟨?_, ?_, ?_⟩
      · rw [ma_cell_ne _ _ _ _ _ _ (by omega), ma_cell_ne _ _ _ _ _ _ (by omega), ma_cell_ne _ _ _ _ _ _ (by omega), gs_up_eq]
      · rw [ma_cell_ne _ _ _ _ _ _ (by omega), ma_cell_ne _ _ _ _ _ _ (by omega), gs_up_eq]
      · rw [ma_cell_ne _ _ _ _ _ _ (by omega), gs_up_eq]
  · rw [ma_la_r (by omega), R _ (by omega) (by omega) (by omega) (by omega)]
    exact h19 t ht
  · have hk4 : (k : Int) < T 3 4 := hk
    exact R r (by omega) (by omega) (by omega) (by omega)
theorem m_la (C : ma_M s T V M) {p h b : Int} {n : Nat} (hn : T 3 6 = n) : ma_M s (ma_la T p h b) V (gs_up (gs_up (gs_up (gs_up M 162 n (iI p)) 163 n (iI h)) 164 n (iI b)) 147 40 (iI (n + 1))) := by
  obtain ⟨h1, h2, h3, h4, h5, h6, h7, h8, h9, h10, h11, h12, h13, h14, h15, h16, h17, h18, h19⟩ := C
  refine ⟨h1, h2, h3, h4, h5, h6, h7, h8, ?_, h10, h11, h12, h13, h14, fun i hi => ?_, h16, fun t ht => ?_, fun k hk => (h18 k hk).cg rfl rfl, h19⟩
  · show _ = iI (T 3 6 + 1)
    rw [gs_up_eq, hn]
  · have hi' : (i : Int) < T 3 6 + 1 := hi
    rcases (by omega : (i : Int) < T 3 6 ∨ T 3 6 = i) with c | c
    · rw [ma_la_n (by omega), ma_la_n (by omega), ma_la_n (by omega)]
      obtain ⟨a1, a2, a3⟩ := h15 i c
      refine ⟨?_, ?_, ?_⟩
      · rw [ma_cell_ne _ _ _ _ _ _ (by omega), ma_cell_ne _ _ _ _ _ _ (by omega), ma_cell_ne _ _ _ _ _ _ (by omega), ma_cell_ne _ _ _ _ _ _ (by omega), a1]
      · rw [ma_cell_ne _ _ _ _ _ _ (by omega), ma_cell_ne _ _ _ _ _ _ (by omega), ma_cell_ne _ _ _ _ _ _ (by omega), ma_cell_ne _ _ _ _ _ _ (by omega), a2]
      · rw [ma_cell_ne _ _ _ _ _ _ (by omega), ma_cell_ne _ _ _ _ _ _ (by omega), ma_cell_ne _ _ _ _ _ _ (by omega), ma_cell_ne _ _ _ _ _ _ (by omega), a3]
    · have en : n = i := by omega
      subst en
      obtain ⟨e1, e2, e3⟩ := ma_la_e (p := p) (h := h) (b := b) hn
      rw [e1, e2, e3]
      refine ⟨?_, ?_, ?_⟩
      · rw [ma_cell_ne _ _ _ _ _ _ (by omega), ma_cell_ne _ _ _ _ _ _ (by omega), ma_cell_ne _ _ _ _ _ _ (by omega), gs_up_eq]
      · rw [ma_cell_ne _ _ _ _ _ _ (by omega), ma_cell_ne _ _ _ _ _ _ (by omega), gs_up_eq]
      · rw [ma_cell_ne _ _ _ _ _ _ (by omega), gs_up_eq]
  · rw [ma_la_r (by omega)]
    exact h17 t ht
/-- a byte of a number -/
def ma_by (v : Int32) (k : Nat) : Int := ((v >>> (iI k &&& iI 31)) &&& iI 255).toInt
theorem m_by (v : Int32) (k : Nat) : (v >>> (iI k &&& iI 31)) &&& iI 255 = iI (ma_by v k) := iI_of _
theorem ma_by_b (v : Int32) (k : Nat) : 0 ≤ ma_by v k ∧ ma_by v k ≤ 255 := by
  obtain ⟨j, h1, h2⟩ := pk_andE (v >>> (iI k &&& iI 31)) (m := iI 255) 8 (by decide +kernel)
  unfold ma_by
  rw [h2, iI_nI, iI_toInt (by omega) (by omega)]
  omega
theorem q_toInt (x : Int32) : x.toInt = if 2 * x.toBitVec.toNat < 2 ^ 32 then (x.toBitVec.toNat : Int) else (x.toBitVec.toNat : Int) - (2 ^ 32 : Nat) := BitVec.toInt_eq_toNat_cond x.toBitVec
theorem c_by (v : Int32) {k : Nat} (hk : k = 24 ∨ k = 16 ∨ k = 8 ∨ k = 0) : ((Int32.toUInt32 v >>> (Int32.toUInt32 (iI k) &&& Int32.toUInt32 (iI 31))).toInt32) &&& iI 255 = iI (ma_by v k) := by
  rw [← m_by, pk_and _ 8 (by decide +kernel), pk_and _ 8 (by decide +kernel)]
  congr 1
  have hb := v.toBitVec.isLt
  have e2 := pk_shr v (iI k &&& iI 31) k (q_sl k (by omega))
  have e3 := q_toInt v
  have e4 := q_toInt (v >>> (iI k &&& iI 31))
  rw [e2, e3] at e4
  have e1 : ((Int32.toUInt32 v >>> (Int32.toUInt32 (iI k) &&& Int32.toUInt32 (iI 31))).toInt32).toBitVec.toNat = v.toBitVec.toNat / 2 ^ k := by
    show (Int32.toUInt32 v >>> (Int32.toUInt32 (iI k) &&& Int32.toUInt32 (iI 31))).toNat = v.toBitVec.toNat / 2 ^ k
    rw [UInt32.toNat_shiftRight, Nat.shiftRight_eq_div_pow]
    rcases hk with rfl | rfl | rfl | rfl <;> rfl
  rw [e1]
  have hb2 := (v >>> (iI k &&& iI 31)).toBitVec.isLt
  revert e4 hb2
  generalize (v >>> (iI k &&& iI 31)).toBitVec.toNat = B
  revert hb
  generalize v.toBitVec.toNat = A
  intro hb e4 hb2
  rw [Int.shiftRight_eq_div_pow] at e4
  rcases hk with rfl | rfl | rfl | rfl
  · split at e4 <;> split at e4 <;> omega
  · split at e4 <;> split at e4 <;> omega
  · split at e4 <;> split at e4 <;> omega
  · split at e4 <;> split at e4 <;> omega
theorem m_by8 (v : Int32) (k : Nat) : vp_nar .byte ((Int32.toInt8 (v >>> (iI k &&& iI 31))).toInt32) = (iI (ma_by v k)).toInt8.toInt32 := by
  rw [pk_vb, ← m_by]
  congr 1
  apply Int8.toBitVec_inj.1
  rw [Int32.toBitVec_toInt8, Int32.toBitVec_toInt8, BitVec.signExtend_eq_setWidth_of_le _ (by decide), BitVec.signExtend_eq_setWidth_of_le _ (by decide)]
  apply BitVec.eq_of_toNat_eq
  rw [BitVec.toNat_setWidth, BitVec.toNat_setWidth, pk_and (v >>> (iI k &&& iI 31)) (m := iI 255) 8 (by decide +kernel)]
  have h := (v >>> (iI k &&& iI 31)).toBitVec.isLt
  have e : (nI ((v >>> (iI k &&& iI 31)).toBitVec.toNat % 2 ^ 8)).toBitVec.toNat = (v >>> (iI k &&& iI 31)).toBitVec.toNat % 2 ^ 8 := by
    show (BitVec.ofInt 32 (((v >>> (iI k &&& iI 31)).toBitVec.toNat % 2 ^ 8 : Nat) : Int)).toNat = _
    rw [BitVec.ofInt_natCast, BitVec.toNat_ofNat]
    omega
  rw [e]
  omega
/-- one byte on the TAPE -/
def ma_fb (T : Nat → Nat → Int) (b : Int) : Nat → Nat → Int := if b = 0 then T else fun x => if x = 3 then (fun y => if y = 7 then T 3 7 + 1 else T 3 y) else if x = 4 then (fun y => if (y : Int) = T 3 7 then b else T 4 y) else T x
theorem ma_fb_0 {b : Int} (hb : b = 0) : ma_fb T b = T := if_pos hb
theorem ma_fb_1 {b : Int} (hb : b ≠ 0) : ma_fb T b = fun x => if x = 3 then (fun y => if y = 7 then T 3 7 + 1 else T 3 y) else if x = 4 then (fun y => if (y : Int) = T 3 7 then b else T 4 y) else T x := if_neg hb
def ma_t1 (b : Int) : Int := if b = 0 then 0 else 1
theorem ma_fb_7 (b : Int) : ma_fb T b 3 7 = T 3 7 + ma_t1 b := by
  unfold ma_t1
  by_cases c : b = 0
  · rw [ma_fb_0 c, if_pos c]; omega
  · rw [ma_fb_1 c, if_neg c]; rfl
theorem ma_fb_4 (b : Int) : ma_fb T b 3 4 = T 3 4 := by
  by_cases c : b = 0
  · rw [ma_fb_0 c]
  · rw [ma_fb_1 c]; rfl
theorem ma_fb_w (w : ma_wT T) {b : Int} (hb : 0 ≤ b ∧ b ≤ 255) (h7 : T 3 7 + ma_t1 b ≤ 240) : ma_wT (ma_fb T b) := by
  by_cases c : b = 0
  · rw [ma_fb_0 c]; exact w
  have h7' : T 3 7 + 1 ≤ 240 := by
    unfold ma_t1 at h7
    rw [if_neg c] at h7
    exact h7
  rw [ma_fb_1 c]
  obtain ⟨h1, h2, h3, h4, h5, h6, h7, h8, h9, h10, h11, h12, h13, h14, h15, h16, h17, h18, h19⟩ := w
  refine ⟨h1, h2, h3, h4, h5, h6, h7, h8, h9, h10, h11, ⟨by show 0 ≤ T 3 7 + 1; omega, h7'⟩, h13, h14, fun i hi => ?_, h16, h17, h18, fun t ht => ?_⟩
  · have hi' : (i : Int) < T 3 7 + 1 := hi
    show 1 ≤ (if (i : Int) = T 3 7 then b else T 4 i) ∧ (if (i : Int) = T 3 7 then b else T 4 i) ≤ 255
    by_cases d : (i : Int) = T 3 7
    · rw [if_pos d]; omega
    · rw [if_neg d]; exact h15 i (by omega)
  · simp only
    rw [if_neg (by omega), if_neg (by omega)]
    exact h19 t ht
theorem c_fb (W : ma_W s T V) (C : ma_C s T V M) {b : Int} (hb : b ≠ 0) {n : Nat} (hn : T 3 7 = n) (h7 : n < 240) : ma_C s (ma_fb T b) V (gs_up (gs_up M 2 n (iI b)) 1 1 (iI (n + 1))) := by
  obtain ⟨h1, h2, h3, h4, h5, h6, h7, h8, h9, h10, h11, h12, h13, h14, h15, h16, ⟨nx, h17, h18, h19⟩, h20, h21⟩ := C
  have w8 : 0 ≤ T 3 4 ∧ T 3 4 ≤ 4 := W.2.1.2.2.2.2.2.2.2.1
  have R : ∀ r, r ≠ 1 → r ≠ 2 → gs_up (gs_up M 2 n (iI b)) 1 1 (iI (n + 1)) r = M r := fun r r1 r2 => by
    rw [ma_row_ne _ _ _ _ _ r1, ma_row_ne _ _ _ _ _ r2]
  rw [ma_fb_1 hb]
  refine ⟨h1, h2, h3, h4, h5, h6, h7, h8, h9, ?_, h11, h12, fun i hi => ?_, h14, h15, h16, ⟨nx, h17, h18, fun t ht => ?_⟩, fun k hk => (h20 k hk).cg (fun r r1 r2 => ?_), h21⟩
  · show _ = iI (T 3 7 + 1)
    rw [gs_up_eq, hn]
  · have hi' : (i : Int) < T 3 7 + 1 := hi
    show _ = iI (if (i : Int) = T 3 7 then b else T 4 i)
    rw [ma_row_ne _ _ _ _ _ (by decide)]
    by_cases d : (i : Int) = T 3 7
    · have en : n = i := by omega
      subst en
      rw [if_pos d, gs_up_eq]
    · rw [if_neg d, ma_cell_ne _ _ _ _ _ _ (by omega)]
      exact h13 i (by omega)
  · simp only
    rw [if_neg (by omega), if_neg (by omega), R _ (by omega) (by omega)]
    exact h19 t ht
  · have hk4 : (k : Int) < T 3 4 := hk
    exact R r (by omega) (by omega)
theorem m_fb (C : ma_M s T V M) {b : Int} (hb : b ≠ 0) {n : Nat} (hn : T 3 7 = n) : ma_M s (ma_fb T b) V (gs_up (gs_up M 148 n ((iI b).toInt8.toInt32)) 147 6 (iI (n + 1))) := by
  obtain ⟨h1, h2, h3, h4, h5, h6, h7, h8, h9, h10, h11, h12, h13, h14, h15, h16, h17, h18, h19⟩ := C
  rw [ma_fb_1 hb]
  refine ⟨h1, h2, h3, h4, h5, h6, h7, h8, h9, ?_, h11, h12, fun i hi => ?_, h14, h15, h16, fun t ht => ?_, fun k hk => (h18 k hk).cg rfl rfl, h19⟩
  · show _ = iI (T 3 7 + 1)
    rw [gs_up_eq, hn]
  · have hi' : (i : Int) < T 3 7 + 1 := hi
    show _ = (iI (if (i : Int) = T 3 7 then b else T 4 i)).toInt8.toInt32
    rw [ma_row_ne _ _ _ _ _ (by decide)]
    by_cases d : (i : Int) = T 3 7
    · have en : n = i := by omega
      subst en
      rw [if_pos d, gs_up_eq]
    · rw [if_neg d, ma_cell_ne _ _ _ _ _ _ (by omega)]
      exact h13 i (by omega)
  · simp only
    rw [if_neg (by omega), if_neg (by omega)]
    exact h17 t ht
theorem ma_t1_b (b : Int) : 0 ≤ ma_t1 b ∧ ma_t1 b ≤ 1 := by
  unfold ma_t1
  split <;> omega
theorem c_put1 (W : ma_W s T V) (C : ma_C s T V M) (v : Int32) {k : Nat} (hk : k = 24 ∨ k = 16 ∨ k = 8 ∨ k = 0) (h7 : T 3 7 + ma_t1 (ma_by v k) ≤ 240) (f : Nat) : ∃ M1, l_X7_put_3 v (f + 1) (iI k) M = l_X7_put_3 v f (iI ((k : Int) + -8)) M1 ∧ ma_C s (ma_fb T (ma_by v k)) V M1 ∧ iv_hi M M1 := by
  have w := W.2.1
  obtain ⟨f1, f2, f3, f4, f5, f6, f7, f8, f9, f10, f11, f12, -⟩ := W.2.1
  have bb := ma_by_b v k
  have e1 := c_by v hk
  have ta := C.ta
  by_cases c : ma_by v k = 0
  · refine ⟨M, ?_, by rw [ma_fb_0 c]; exact C, iv_hi.rf⟩
    simp only [l_X7_put_3]
    simp (disch := omega) only [qn0, qn1, qn2, qn3, qn4, qn5, qn6, qn7, qn8, qn9, qn10, qn11, qn12, qn13, qn14, qn15, qn16, qn17, qn18, qn24, qn30, qn31, qn32, qn33, qn36, qn38, qn40, qn41, qn42, qn43, qn45, qn47, qn48, qn49, qn50, qn51, qn52, qn53, qn57, qn58, qn59, qn60, qn61, qn62, qn63, qn91, qn93, qn97, qn99, qn100, qn103, qn104, qn112, qn113, qn115, qn116, qn118, qn119, qn121, qn124, qn173, qn177, qn240, qn255, qn295, qn352, qn353, qn533, qn999, qn1000, qn1023, qn6561, qn10000, qn20787, qn1000000, qn252645135, qn858993459, qn1000000000, qn1431655765, q_s1, q_s2, q_s3, q_s4, q_s5, iI_add, iI_sub, iI_mul, iI_neg, q_lt, q_le, q_eq, qz0, qz1, qz2, qz3, if_pos, if_neg, reduceIte, e1]
  · obtain ⟨n, hn⟩ : ∃ n : Nat, T 3 7 = n := ⟨(T 3 7).toNat, by omega⟩
    have h8 : n < 240 := by
      unfold ma_t1 at h7
      rw [if_neg c] at h7
      omega
    rw [hn] at ta
    have e2 : ∀ x, gs_wr M 2 240 (iI n) x = some (gs_up M 2 n x) := fun x => q_wrn n rfl h8 (by decide)
    have e3 : ∀ x, gs_up M 2 n x 1 1 = iI n := fun x => by rw [ma_row_ne _ _ _ _ _ (by decide), ta]
    refine ⟨_, ?_, c_fb W C c hn h8, (iv_hi.rf.up _ (by decide)).up _ (by decide)⟩
    simp only [l_X7_put_3]
    simp (disch := omega) only [qn0, qn1, qn2, qn3, qn4, qn5, qn6, qn7, qn8, qn9, qn10, qn11, qn12, qn13, qn14, qn15, qn16, qn17, qn18, qn24, qn30, qn31, qn32, qn33, qn36, qn38, qn40, qn41, qn42, qn43, qn45, qn47, qn48, qn49, qn50, qn51, qn52, qn53, qn57, qn58, qn59, qn60, qn61, qn62, qn63, qn91, qn93, qn97, qn99, qn100, qn103, qn104, qn112, qn113, qn115, qn116, qn118, qn119, qn121, qn124, qn173, qn177, qn240, qn255, qn295, qn352, qn353, qn533, qn999, qn1000, qn1023, qn6561, qn10000, qn20787, qn1000000, qn252645135, qn858993459, qn1000000000, qn1431655765, q_s1, q_s2, q_s3, q_s4, q_s5, iI_add, iI_sub, iI_mul, iI_neg, q_lt, q_le, q_eq, qz0, qz1, qz2, qz3, if_pos, if_neg, reduceIte, e1, ta, e2, e3]
theorem m_put1 (W : ma_W s T V) (C : ma_M s T V M) (v : Int32) {k : Nat} (hk : k = 24 ∨ k = 16 ∨ k = 8 ∨ k = 0) (h7 : T 3 7 + ma_t1 (ma_by v k) ≤ 240) (f : Nat) : ∃ M1, l_X12_put_3 v (f + 1) (iI k) M = l_X12_put_3 v f (iI ((k : Int) + -8)) M1 ∧ ma_M s (ma_fb T (ma_by v k)) V M1 ∧ iv_lo M M1 := by
  have w := W.2.1
  obtain ⟨f1, f2, f3, f4, f5, f6, f7, f8, f9, f10, f11, f12, -⟩ := W.2.1
  have bb := ma_by_b v k
  have e1 := m_by v k
  have ta := C.ta
  by_cases c : ma_by v k = 0
  · refine ⟨M, ?_, by rw [ma_fb_0 c]; exact C, iv_lo.rf⟩
    simp only [l_X12_put_3]
    simp (disch := omega) only [qn0, qn1, qn2, qn3, qn4, qn5, qn6, qn7, qn8, qn9, qn10, qn11, qn12, qn13, qn14, qn15, qn16, qn17, qn18, qn24, qn30, qn31, qn32, qn33, qn36, qn38, qn40, qn41, qn42, qn43, qn45, qn47, qn48, qn49, qn50, qn51, qn52, qn53, qn57, qn58, qn59, qn60, qn61, qn62, qn63, qn91, qn93, qn97, qn99, qn100, qn103, qn104, qn112, qn113, qn115, qn116, qn118, qn119, qn121, qn124, qn173, qn177, qn240, qn255, qn295, qn352, qn353, qn533, qn999, qn1000, qn1023, qn6561, qn10000, qn20787, qn1000000, qn252645135, qn858993459, qn1000000000, qn1431655765, q_s1, q_s2, q_s3, q_s4, q_s5, iI_add, iI_sub, iI_mul, iI_neg, q_lt, q_le, q_eq, qz0, qz1, qz2, qz3, if_pos, if_neg, reduceIte, e1]
  · obtain ⟨n, hn⟩ : ∃ n : Nat, T 3 7 = n := ⟨(T 3 7).toNat, by omega⟩
    have h8 : n < 240 := by
      unfold ma_t1 at h7
      rw [if_neg c] at h7
      omega
    rw [hn] at ta
    have e2 : ∀ x, gs_wr M 148 240 (iI n) x = some (gs_up M 148 n x) := fun x => q_wrn n rfl h8 (by decide)
    have e3 : ∀ x, gs_up M 148 n x 147 6 = iI n := fun x => by rw [ma_row_ne _ _ _ _ _ (by decide), ta]
    have e4 := m_by8 v k
    refine ⟨_, ?_, m_fb C c hn, (iv_lo.rf.up _ (by decide)).up _ (by decide)⟩
    simp only [l_X12_put_3]
    simp (disch := omega) only [qn0, qn1, qn2, qn3, qn4, qn5, qn6, qn7, qn8, qn9, qn10, qn11, qn12, qn13, qn14, qn15, qn16, qn17, qn18, qn24, qn30, qn31, qn32, qn33, qn36, qn38, qn40, qn41, qn42, qn43, qn45, qn47, qn48, qn49, qn50, qn51, qn52, qn53, qn57, qn58, qn59, qn60, qn61, qn62, qn63, qn91, qn93, qn97, qn99, qn100, qn103, qn104, qn112, qn113, qn115, qn116, qn118, qn119, qn121, qn124, qn173, qn177, qn240, qn255, qn295, qn352, qn353, qn533, qn999, qn1000, qn1023, qn6561, qn10000, qn20787, qn1000000, qn252645135, qn858993459, qn1000000000, qn1431655765, q_s1, q_s2, q_s3, q_s4, q_s5, iI_add, iI_sub, iI_mul, iI_neg, q_lt, q_le, q_eq, qz0, qz1, qz2, qz3, if_pos, if_neg, reduceIte, e1, ta, e2, e3, e4]
theorem c_put0 {v : Int32} {M : gs_M} (f : Nat) : l_X7_put_3 v (f + 1) (iI (-8)) M = some (iI (-8), M) := by
  simp only [l_X7_put_3]
  simp (disch := omega) only [qn0, qn1, qn2, qn3, qn4, qn5, qn6, qn7, qn8, qn9, qn10, qn11, qn12, qn13, qn14, qn15, qn16, qn17, qn18, qn24, qn30, qn31, qn32, qn33, qn36, qn38, qn40, qn41, qn42, qn43, qn45, qn47, qn48, qn49, qn50, qn51, qn52, qn53, qn57, qn58, qn59, qn60, qn61, qn62, qn63, qn91, qn93, qn97, qn99, qn100, qn103, qn104, qn112, qn113, qn115, qn116, qn118, qn119, qn121, qn124, qn173, qn177, qn240, qn255, qn295, qn352, qn353, qn533, qn999, qn1000, qn1023, qn6561, qn10000, qn20787, qn1000000, qn252645135, qn858993459, qn1000000000, qn1431655765, q_s1, q_s2, q_s3, q_s4, q_s5, iI_add, iI_sub, iI_mul, iI_neg, q_lt, q_le, q_eq, qz0, qz1, qz2, qz3, if_pos, if_neg, reduceIte]
theorem m_put0 {v : Int32} {M : gs_M} (f : Nat) : l_X12_put_3 v (f + 1) (iI (-8)) M = some (iI (-8), M) := by
  simp only [l_X12_put_3]
  simp (disch := omega) only [qn0, qn1, qn2, qn3, qn4, qn5, qn6, qn7, qn8, qn9, qn10, qn11, qn12, qn13, qn14, qn15, qn16, qn17, qn18, qn24, qn30, qn31, qn32, qn33, qn36, qn38, qn40, qn41, qn42, qn43, qn45, qn47, qn48, qn49, qn50, qn51, qn52, qn53, qn57, qn58, qn59, qn60, qn61, qn62, qn63, qn91, qn93, qn97, qn99, qn100, qn103, qn104, qn112, qn113, qn115, qn116, qn118, qn119, qn121, qn124, qn173, qn177, qn240, qn255, qn295, qn352, qn353, qn533, qn999, qn1000, qn1023, qn6561, qn10000, qn20787, qn1000000, qn252645135, qn858993459, qn1000000000, qn1431655765, q_s1, q_s2, q_s3, q_s4, q_s5, iI_add, iI_sub, iI_mul, iI_neg, q_lt, q_le, q_eq, qz0, qz1, qz2, qz3, if_pos, if_neg, reduceIte]
theorem c_told0 {v x : Int32} (f : Nat) : l_X7_told_5 v (f + 1) x (iI (-8)) = some (x, iI (-8)) := by
  simp only [l_X7_told_5]
  rw [qn0, if_pos (by rw [q_lt (by omega)]; omega)]
theorem m_told0 {v x : Int32} (f : Nat) : l_X12_bytesIn_5 v (f + 1) x (iI (-8)) = some (x, iI (-8)) := by
  simp only [l_X12_bytesIn_5]
  rw [qn0, if_pos (by rw [q_lt (by omega)]; omega)]
def ma_pu (T : Nat → Nat → Int) (v : Int32) : Nat → Nat → Int := ma_fb (ma_fb (ma_fb (ma_fb T (ma_by v 24)) (ma_by v 16)) (ma_by v 8)) (ma_by v 0)
def ma_tl (v : Int32) : Int := ma_t1 (ma_by v 24) + ma_t1 (ma_by v 16) + ma_t1 (ma_by v 8) + ma_t1 (ma_by v 0)
theorem ma_tl_b (v : Int32) : 0 ≤ ma_tl v ∧ ma_tl v ≤ 4 := by
  have h1 := ma_t1_b (ma_by v 24)
  have h2 := ma_t1_b (ma_by v 16)
  have h3 := ma_t1_b (ma_by v 8)
  have h4 := ma_t1_b (ma_by v 0)
  unfold ma_tl
  omega
theorem ma_pu_7 (v : Int32) : ma_pu T v 3 7 = T 3 7 + ma_tl v := by
  unfold ma_pu ma_tl
  rw [ma_fb_7, ma_fb_7, ma_fb_7, ma_fb_7]
  omega
theorem ma_wV.fb (h : ma_wV T V) (b : Int) : ma_wV (ma_fb T b) V := by
  intro k kd g c w t h0 a hk
  rw [ma_fb_4] at hk
  exact h k kd g c w t h0 a hk
theorem ma_W.fb (W : ma_W s T V) {v : Int32} {k : Nat} (h7 : T 3 7 + ma_t1 (ma_by v k) ≤ 240) : ma_W s (ma_fb T (ma_by v k)) V := ⟨W.1, ma_fb_w W.2.1 (ma_by_b v k) h7, W.2.2.fb _⟩
theorem c_put (W : ma_W s T V) (C : ma_C s T V M) (v : Int32) (h7 : T 3 7 + ma_tl v ≤ 240) : ∃ M1, f_X7_put M v = some M1 ∧ ma_W s (ma_pu T v) V ∧ ma_C s (ma_pu T v) V M1 ∧ iv_hi M M1 := by
  have b1 := ma_t1_b (ma_by v 24)
  have b2 := ma_t1_b (ma_by v 16)
  have b3 := ma_t1_b (ma_by v 8)
  have b4 := ma_t1_b (ma_by v 0)
  unfold ma_tl at h7
  have W1 := W.fb (v := v) (k := 24) (by omega)
  obtain ⟨M1, e1, C1, g1⟩ := c_put1 W C v (k := 24) (by omega) (by omega) 29999
  have h2 : ma_fb T (ma_by v 24) 3 7 = T 3 7 + ma_t1 (ma_by v 24) := ma_fb_7 _
  have W2 := W1.fb (v := v) (k := 16) (by omega)
  obtain ⟨M2, e2, C2, g2⟩ := c_put1 W1 C1 v (k := 16) (by omega) (by omega) 29998
  have h3 : ma_fb (ma_fb T (ma_by v 24)) (ma_by v 16) 3 7 = T 3 7 + ma_t1 (ma_by v 24) + ma_t1 (ma_by v 16) := by rw [ma_fb_7, h2]
  have W3 := W2.fb (v := v) (k := 8) (by omega)
  obtain ⟨M3, e3, C3, g3⟩ := c_put1 W2 C2 v (k := 8) (by omega) (by omega) 29997
  have h4 : ma_fb (ma_fb (ma_fb T (ma_by v 24)) (ma_by v 16)) (ma_by v 8) 3 7 = T 3 7 + ma_t1 (ma_by v 24) + ma_t1 (ma_by v 16) + ma_t1 (ma_by v 8) := by rw [ma_fb_7, h3]
  have W4 := W3.fb (v := v) (k := 0) (by omega)
  obtain ⟨M4, e4, C4, g4⟩ := c_put1 W3 C3 v (k := 0) (by omega) (by omega) 29996
  refine ⟨M4, ?_, W4, C4, ((g1.tr g2).tr g3).tr g4⟩
  have e5 : l_X7_put_3 v 29996 (iI (((0 : Nat) : Int) + -8)) M4 = some (iI (-8), M4) := by
    exact c_put0 29995
  have e6 : l_X7_put_3 v gs_FU (iI 24) M = some (iI (-8), M4) := by
    rw [← e5, ← e4]
    show l_X7_put_3 v (29999 + 1) (iI (24 : Nat)) M = l_X7_put_3 v 29997 (iI (((8 : Nat) : Int) + -8)) M3
    rw [e1, ← e3]
    show l_X7_put_3 v (29998 + 1) (iI (16 : Nat)) M1 = l_X7_put_3 v 29998 (iI (((16 : Nat) : Int) + -8)) M2
    rw [e2]
  unfold f_X7_put
  rw [qn24, e6, gs_s2]
theorem m_put (W : ma_W s T V) (C : ma_M s T V M) (v : Int32) (h7 : T 3 7 + ma_tl v ≤ 240) : ∃ M1, f_X12_put M v = some M1 ∧ ma_W s (ma_pu T v) V ∧ ma_M s (ma_pu T v) V M1 ∧ iv_lo M M1 := by
  have b1 := ma_t1_b (ma_by v 24)
  have b2 := ma_t1_b (ma_by v 16)
  have b3 := ma_t1_b (ma_by v 8)
  have b4 := ma_t1_b (ma_by v 0)
  unfold ma_tl at h7
  have W1 := W.fb (v := v) (k := 24) (by omega)
  obtain ⟨M1, e1, C1, g1⟩ := m_put1 W C v (k := 24) (by omega) (by omega) 29999
  have h2 : ma_fb T (ma_by v 24) 3 7 = T 3 7 + ma_t1 (ma_by v 24) := ma_fb_7 _
  have W2 := W1.fb (v := v) (k := 16) (by omega)
  obtain ⟨M2, e2, C2, g2⟩ := m_put1 W1 C1 v (k := 16) (by omega) (by omega) 29998
  have h3 : ma_fb (ma_fb T (ma_by v 24)) (ma_by v 16) 3 7 = T 3 7 + ma_t1 (ma_by v 24) + ma_t1 (ma_by v 16) := by rw [ma_fb_7, h2]
  have W3 := W2.fb (v := v) (k := 8) (by omega)
  obtain ⟨M3, e3, C3, g3⟩ := m_put1 W2 C2 v (k := 8) (by omega) (by omega) 29997
  have h4 : ma_fb (ma_fb (ma_fb T (ma_by v 24)) (ma_by v 16)) (ma_by v 8) 3 7 = T 3 7 + ma_t1 (ma_by v 24) + ma_t1 (ma_by v 16) + ma_t1 (ma_by v 8) := by rw [ma_fb_7, h3]
  have W4 := W3.fb (v := v) (k := 0) (by omega)
  obtain ⟨M4, e4, C4, g4⟩ := m_put1 W3 C3 v (k := 0) (by omega) (by omega) 29996
  refine ⟨M4, ?_, W4, C4, ((g1.tr g2).tr g3).tr g4⟩
  have e5 : l_X12_put_3 v 29996 (iI (((0 : Nat) : Int) + -8)) M4 = some (iI (-8), M4) := by
    exact m_put0 29995
  have e6 : l_X12_put_3 v gs_FU (iI 24) M = some (iI (-8), M4) := by
    rw [← e5, ← e4]
    show l_X12_put_3 v (29999 + 1) (iI (24 : Nat)) M = l_X12_put_3 v 29997 (iI (((8 : Nat) : Int) + -8)) M3
    rw [e1, ← e3]
    show l_X12_put_3 v (29998 + 1) (iI (16 : Nat)) M1 = l_X12_put_3 v 29998 (iI (((16 : Nat) : Int) + -8)) M2
    rw [e2]
  unfold f_X12_put
  rw [qn24, e6, gs_s2]
theorem q_t1 {b : Int} (hb : 0 ≤ b ∧ b ≤ 255) (a : Int) : iI a + (if iI b = iI 0 then iI 0 else iI 1) = iI (a + ma_t1 b) := by
  unfold ma_t1
  by_cases c : b = 0
  · rw [c, if_pos rfl, if_pos rfl, iI_add]
  · rw [if_neg (by rw [q_eq (by omega)]; exact c), if_neg c, iI_add]
theorem c_told1 (v : Int32) {k : Nat} (hk : k = 24 ∨ k = 16 ∨ k = 8 ∨ k = 0) (a : Int) (f : Nat) : l_X7_told_5 v (f + 1) (iI a) (iI k) = l_X7_told_5 v f (iI (a + ma_t1 (ma_by v k))) (iI ((k : Int) + -8)) := by
  have e1 := c_by v hk
  simp only [l_X7_told_5]
  rw [qn31, qn255, e1, qn0, qn1, q_t1 (ma_by_b v k), qn8, iI_neg, iI_add, if_neg (by rw [q_lt (by omega)]; omega)]
theorem m_told1 (v : Int32) {k : Nat} (hk : k = 24 ∨ k = 16 ∨ k = 8 ∨ k = 0) (a : Int) (f : Nat) : l_X12_bytesIn_5 v (f + 1) (iI a) (iI k) = l_X12_bytesIn_5 v f (iI (a + ma_t1 (ma_by v k))) (iI ((k : Int) + -8)) := by
  have e1 := m_by v k
  simp only [l_X12_bytesIn_5]
  rw [qn31, qn255, e1, qn0, qn1, q_t1 (ma_by_b v k), qn8, iI_neg, iI_add, if_neg (by rw [q_lt (by omega)]; omega)]
theorem c_told (v : Int32) : f_X7_told v = some (iI (ma_tl v)) := by
  have e1 : l_X7_told_5 v (29999 + 1) (iI 0) (iI (24 : Nat)) = _ := c_told1 v (k := 24) (by omega) 0 29999
  have e2 : l_X7_told_5 v (29998 + 1) (iI (0 + ma_t1 (ma_by v 24))) (iI (16 : Nat)) = _ := c_told1 v (k := 16) (by omega) (0 + ma_t1 (ma_by v 24)) 29998
  have e3 : l_X7_told_5 v (29997 + 1) (iI (0 + ma_t1 (ma_by v 24) + ma_t1 (ma_by v 16))) (iI (8 : Nat)) = _ := c_told1 v (k := 8) (by omega) (0 + ma_t1 (ma_by v 24) + ma_t1 (ma_by v 16)) 29997
  have e4 : l_X7_told_5 v (29996 + 1) (iI (0 + ma_t1 (ma_by v 24) + ma_t1 (ma_by v 16) + ma_t1 (ma_by v 8))) (iI (0 : Nat)) = _ := c_told1 v (k := 0) (by omega) (0 + ma_t1 (ma_by v 24) + ma_t1 (ma_by v 16) + ma_t1 (ma_by v 8)) 29996
  have e5 : l_X7_told_5 v (29995 + 1) (iI (0 + ma_t1 (ma_by v 24) + ma_t1 (ma_by v 16) + ma_t1 (ma_by v 8) + ma_t1 (ma_by v 0))) (iI (-8)) = some (iI (ma_tl v), iI (-8)) := by
    rw [c_told0 29995]
    unfold ma_tl
    congr 3
    omega
  have e6 : l_X7_told_5 v gs_FU (iI 0) (iI 24) = some (iI (ma_tl v), iI (-8)) := e1.trans (e2.trans (e3.trans (e4.trans e5)))
  unfold f_X7_told
  rw [qn24, qn0, e6, gs_s2]
theorem m_told (v : Int32) : f_X12_bytesIn v = some (iI (ma_tl v)) := by
  have e1 : l_X12_bytesIn_5 v (29999 + 1) (iI 0) (iI (24 : Nat)) = _ := m_told1 v (k := 24) (by omega) 0 29999
  have e2 : l_X12_bytesIn_5 v (29998 + 1) (iI (0 + ma_t1 (ma_by v 24))) (iI (16 : Nat)) = _ := m_told1 v (k := 16) (by omega) (0 + ma_t1 (ma_by v 24)) 29998
  have e3 : l_X12_bytesIn_5 v (29997 + 1) (iI (0 + ma_t1 (ma_by v 24) + ma_t1 (ma_by v 16))) (iI (8 : Nat)) = _ := m_told1 v (k := 8) (by omega) (0 + ma_t1 (ma_by v 24) + ma_t1 (ma_by v 16)) 29997
  have e4 : l_X12_bytesIn_5 v (29996 + 1) (iI (0 + ma_t1 (ma_by v 24) + ma_t1 (ma_by v 16) + ma_t1 (ma_by v 8))) (iI (0 : Nat)) = _ := m_told1 v (k := 0) (by omega) (0 + ma_t1 (ma_by v 24) + ma_t1 (ma_by v 16) + ma_t1 (ma_by v 8)) 29996
  have e5 : l_X12_bytesIn_5 v (29995 + 1) (iI (0 + ma_t1 (ma_by v 24) + ma_t1 (ma_by v 16) + ma_t1 (ma_by v 8) + ma_t1 (ma_by v 0))) (iI (-8)) = some (iI (ma_tl v), iI (-8)) := by
    rw [m_told0 29995]
    unfold ma_tl
    congr 3
    omega
  have e6 : l_X12_bytesIn_5 v gs_FU (iI 0) (iI 24) = some (iI (ma_tl v), iI (-8)) := e1.trans (e2.trans (e3.trans (e4.trans e5)))
  unfold f_X12_bytesIn
  rw [qn24, qn0, e6, gs_s2]
end Feed
theorem s_lamp : gl_S_lamp ma_Inv := by
  intro M L hI x1 x2 x3 hx3
  have hI0 := hI
  obtain ⟨s, T, V, W, C, D⟩ := hI
  have w := W.2.1
  obtain ⟨f1, f2, f3, f4, f5, f6, f7, f8, f9, f10, f11, f12, f13, f14, -⟩ := W.2.1
  have D1 := ma_D0 D w (iI 0)
  rcases ma_isP W x1 with ⟨n1, n2⟩ | ⟨p, hp, p8, rfl⟩
  · refine ⟨iI (-1), M, gs_up M 147 0 (iI 0), ?_, ?_, hI0.ag (ma_g0 iv_ag.rf _)⟩
    · unfold f_X11_lamp
      simp (disch := omega) only [qn0, qn1, qn2, qn3, qn4, qn5, qn6, qn7, qn8, qn9, qn10, qn11, qn12, qn13, qn14, qn15, qn16, qn17, qn18, qn24, qn30, qn31, qn32, qn33, qn36, qn38, qn40, qn41, qn42, qn43, qn45, qn47, qn48, qn49, qn50, qn51, qn52, qn53, qn57, qn58, qn59, qn60, qn61, qn62, qn63, qn91, qn93, qn97, qn99, qn100, qn103, qn104, qn112, qn113, qn115, qn116, qn118, qn119, qn121, qn124, qn173, qn177, qn240, qn255, qn295, qn352, qn353, qn533, qn999, qn1000, qn1023, qn6561, qn10000, qn20787, qn1000000, qn252645135, qn858993459, qn1000000000, qn1431655765, qj0, qj1, qj2, qj4, qj7, qj8, qj9, qj10, qj30, qj100, qj1000, qj1000000, qj1000000000, qj1442695040888963407, qj6364136223846793005, q_s1, q_s2, q_s3, q_s4, q_s5, iI_add, iI_sub, iI_mul, iI_neg, q_lt, q_le, q_eq, jI_add, jI_sub, jI_mul, jI_neg, jI_of, jI_to, j_le0, j_ge0, j_lt0, j_gt0, j_eq0, q_dvl, qz0, qz1, qz2, qz3, if_pos, if_neg, reduceIte, n1 M C]
    · unfold f_X12_lamp
      simp (disch := omega) only [qn0, qn1, qn2, qn3, qn4, qn5, qn6, qn7, qn8, qn9, qn10, qn11, qn12, qn13, qn14, qn15, qn16, qn17, qn18, qn24, qn30, qn31, qn32, qn33, qn36, qn38, qn40, qn41, qn42, qn43, qn45, qn47, qn48, qn49, qn50, qn51, qn52, qn53, qn57, qn58, qn59, qn60, qn61, qn62, qn63, qn91, qn93, qn97, qn99, qn100, qn103, qn104, qn112, qn113, qn115, qn116, qn118, qn119, qn121, qn124, qn173, qn177, qn240, qn255, qn295, qn352, qn353, qn533, qn999, qn1000, qn1023, qn6561, qn10000, qn20787, qn1000000, qn252645135, qn858993459, qn1000000000, qn1431655765, qj0, qj1, qj2, qj4, qj7, qj8, qj9, qj10, qj30, qj100, qj1000, qj1000000, qj1000000000, qj1442695040888963407, qj6364136223846793005, q_s1, q_s2, q_s3, q_s4, q_s5, iI_add, iI_sub, iI_mul, iI_neg, q_lt, q_le, q_eq, jI_add, jI_sub, jI_mul, jI_neg, jI_of, jI_to, j_le0, j_ge0, j_lt0, j_gt0, j_eq0, q_dvl, qz0, qz1, qz2, qz3, if_pos, if_neg, reduceIte, n2 _ D1]
  rcases ma_isH W x2 with ⟨n1, n2⟩ | ⟨h, hh, h9, rfl⟩
  · refine ⟨iI (-1), M, gs_up M 147 0 (iI 0), ?_, ?_, hI0.ag (ma_g0 iv_ag.rf _)⟩
    · unfold f_X11_lamp
      simp (disch := omega) only [qn0, qn1, qn2, qn3, qn4, qn5, qn6, qn7, qn8, qn9, qn10, qn11, qn12, qn13, qn14, qn15, qn16, qn17, qn18, qn24, qn30, qn31, qn32, qn33, qn36, qn38, qn40, qn41, qn42, qn43, qn45, qn47, qn48, qn49, qn50, qn51, qn52, qn53, qn57, qn58, qn59, qn60, qn61, qn62, qn63, qn91, qn93, qn97, qn99, qn100, qn103, qn104, qn112, qn113, qn115, qn116, qn118, qn119, qn121, qn124, qn173, qn177, qn240, qn255, qn295, qn352, qn353, qn533, qn999, qn1000, qn1023, qn6561, qn10000, qn20787, qn1000000, qn252645135, qn858993459, qn1000000000, qn1431655765, qj0, qj1, qj2, qj4, qj7, qj8, qj9, qj10, qj30, qj100, qj1000, qj1000000, qj1000000000, qj1442695040888963407, qj6364136223846793005, q_s1, q_s2, q_s3, q_s4, q_s5, iI_add, iI_sub, iI_mul, iI_neg, q_lt, q_le, q_eq, jI_add, jI_sub, jI_mul, jI_neg, jI_of, jI_to, j_le0, j_ge0, j_lt0, j_gt0, j_eq0, q_dvl, qz0, qz1, qz2, qz3, if_pos, if_neg, reduceIte, c_isP w C hp, n1 M C]
    · unfold f_X12_lamp
      simp (disch := omega) only [qn0, qn1, qn2, qn3, qn4, qn5, qn6, qn7, qn8, qn9, qn10, qn11, qn12, qn13, qn14, qn15, qn16, qn17, qn18, qn24, qn30, qn31, qn32, qn33, qn36, qn38, qn40, qn41, qn42, qn43, qn45, qn47, qn48, qn49, qn50, qn51, qn52, qn53, qn57, qn58, qn59, qn60, qn61, qn62, qn63, qn91, qn93, qn97, qn99, qn100, qn103, qn104, qn112, qn113, qn115, qn116, qn118, qn119, qn121, qn124, qn173, qn177, qn240, qn255, qn295, qn352, qn353, qn533, qn999, qn1000, qn1023, qn6561, qn10000, qn20787, qn1000000, qn252645135, qn858993459, qn1000000000, qn1431655765, qj0, qj1, qj2, qj4, qj7, qj8, qj9, qj10, qj30, qj100, qj1000, qj1000000, qj1000000000, qj1442695040888963407, qj6364136223846793005, q_s1, q_s2, q_s3, q_s4, q_s5, iI_add, iI_sub, iI_mul, iI_neg, q_lt, q_le, q_eq, jI_add, jI_sub, jI_mul, jI_neg, jI_of, jI_to, j_le0, j_ge0, j_lt0, j_gt0, j_eq0, q_dvl, qz0, qz1, qz2, qz3, if_pos, if_neg, reduceIte, m_isP w D1 hp, n2 _ D1]
  have e1 := C.lp
  have e2 := D1.lp
  rcases (by omega : T 3 6 = 12 ∨ T 3 6 < 12) with c | c
  · rw [c] at e1 e2
    refine ⟨iI (-1), M, gs_up M 147 0 (iI 0), ?_, ?_, hI0.ag (ma_g0 iv_ag.rf _)⟩
    · unfold f_X11_lamp f_X1_add
      simp (disch := omega) only [qn0, qn1, qn2, qn3, qn4, qn5, qn6, qn7, qn8, qn9, qn10, qn11, qn12, qn13, qn14, qn15, qn16, qn17, qn18, qn24, qn30, qn31, qn32, qn33, qn36, qn38, qn40, qn41, qn42, qn43, qn45, qn47, qn48, qn49, qn50, qn51, qn52, qn53, qn57, qn58, qn59, qn60, qn61, qn62, qn63, qn91, qn93, qn97, qn99, qn100, qn103, qn104, qn112, qn113, qn115, qn116, qn118, qn119, qn121, qn124, qn173, qn177, qn240, qn255, qn295, qn352, qn353, qn533, qn999, qn1000, qn1023, qn6561, qn10000, qn20787, qn1000000, qn252645135, qn858993459, qn1000000000, qn1431655765, qj0, qj1, qj2, qj4, qj7, qj8, qj9, qj10, qj30, qj100, qj1000, qj1000000, qj1000000000, qj1442695040888963407, qj6364136223846793005, q_s1, q_s2, q_s3, q_s4, q_s5, iI_add, iI_sub, iI_mul, iI_neg, q_lt, q_le, q_eq, jI_add, jI_sub, jI_mul, jI_neg, jI_of, jI_to, j_le0, j_ge0, j_lt0, j_gt0, j_eq0, q_dvl, qz0, qz1, qz2, qz3, if_pos, if_neg, reduceIte, c_isP w C hp, c_isH w C hh, e1]
    · unfold f_X12_lamp
      simp (disch := omega) only [qn0, qn1, qn2, qn3, qn4, qn5, qn6, qn7, qn8, qn9, qn10, qn11, qn12, qn13, qn14, qn15, qn16, qn17, qn18, qn24, qn30, qn31, qn32, qn33, qn36, qn38, qn40, qn41, qn42, qn43, qn45, qn47, qn48, qn49, qn50, qn51, qn52, qn53, qn57, qn58, qn59, qn60, qn61, qn62, qn63, qn91, qn93, qn97, qn99, qn100, qn103, qn104, qn112, qn113, qn115, qn116, qn118, qn119, qn121, qn124, qn173, qn177, qn240, qn255, qn295, qn352, qn353, qn533, qn999, qn1000, qn1023, qn6561, qn10000, qn20787, qn1000000, qn252645135, qn858993459, qn1000000000, qn1431655765, qj0, qj1, qj2, qj4, qj7, qj8, qj9, qj10, qj30, qj100, qj1000, qj1000000, qj1000000000, qj1442695040888963407, qj6364136223846793005, q_s1, q_s2, q_s3, q_s4, q_s5, iI_add, iI_sub, iI_mul, iI_neg, q_lt, q_le, q_eq, jI_add, jI_sub, jI_mul, jI_neg, jI_of, jI_to, j_le0, j_ge0, j_lt0, j_gt0, j_eq0, q_dvl, qz0, qz1, qz2, qz3, if_pos, if_neg, reduceIte, m_isP w D1 hp, m_isH w D1 hh, e2]
  · obtain ⟨n, hn⟩ : ∃ n : Nat, T 3 6 = n := ⟨(T 3 6).toNat, by omega⟩
    obtain ⟨b, hb, rfl, hv⟩ : ∃ b : Int, (0 ≤ b ∧ b ≤ 1) ∧ x3 = iI b ∧ vp_nar .boolean (iI b) = iI b := by
      rcases hx3 with rfl | rfl
      · exact ⟨0, by omega, rfl, rfl⟩
      · exact ⟨1, by omega, rfl, rfl⟩
    rw [hn] at e1
    have w' := w.la (p := p) (h := h) (b := b) c (by omega) (by omega) hb
    have C1 := c_la W C (p := p) (h := h) (b := b) hn
    have D2 := ma_D0 (D.hi w ((((iv_hi.rf.up (i := 135) (k := n) (iI p) (by decide)).up (i := 136) (k := n) (iI h) (by decide)).up (i := 137) (k := n) (iI b) (by decide)).up (i := 134) (k := 7) (iI (n + 1)) (by decide))) w (iI 0)
    have e3 := D2.lp
    rw [hn] at e3
    have D3 := m_la D2 (p := p) (h := h) (b := b) hn
    have y1 : ∀ (N : gs_M) r v, gs_wr N r 12 (iI n) v = some (gs_up N r n v) := fun N r v => q_wrn n rfl (by omega) (by decide)
    have y2 : gs_up M 135 n (iI p) 134 7 = iI n := by rw [ma_row_ne _ _ _ _ _ (by decide), e1]
    have y3 : gs_up (gs_up M 135 n (iI p)) 136 n (iI h) 134 7 = iI n := by rw [ma_row_ne _ _ _ _ _ (by decide), y2]
    have y4 : gs_up (gs_up (gs_up M 135 n (iI p)) 136 n (iI h)) 137 n (iI b) 134 7 = iI n := by rw [ma_row_ne _ _ _ _ _ (by decide), y3]
    have y5 : gs_up (gs_up (gs_up (gs_up M 135 n (iI p)) 136 n (iI h)) 137 n (iI b)) 134 7 (iI (n + 1)) 134 7 = iI (n + 1) := gs_up_eq _ _ _ _
    have t2 : gs_up (gs_up (gs_up (gs_up (gs_up (gs_up M 135 n (iI p)) 136 n (iI h)) 137 n (iI b)) 134 7 (iI (n + 1))) 147 0 (iI 0)) 162 n (iI p) 147 40 = iI n := by rw [ma_row_ne _ _ _ _ _ (by decide), e3]
    have t3 : gs_up (gs_up (gs_up (gs_up (gs_up (gs_up (gs_up M 135 n (iI p)) 136 n (iI h)) 137 n (iI b)) 134 7 (iI (n + 1))) 147 0 (iI 0)) 162 n (iI p)) 163 n (iI h) 147 40 = iI n := by rw [ma_row_ne _ _ _ _ _ (by decide), t2]
    have t4 : gs_up (gs_up (gs_up (gs_up (gs_up (gs_up (gs_up (gs_up M 135 n (iI p)) 136 n (iI h)) 137 n (iI b)) 134 7 (iI (n + 1))) 147 0 (iI 0)) 162 n (iI p)) 163 n (iI h)) 164 n (iI b) 147 40 = iI n := by rw [ma_row_ne _ _ _ _ _ (by decide), t3]
    have t5 : gs_up (gs_up (gs_up (gs_up (gs_up (gs_up (gs_up (gs_up (gs_up M 135 n (iI p)) 136 n (iI h)) 137 n (iI b)) 134 7 (iI (n + 1))) 147 0 (iI 0)) 162 n (iI p)) 163 n (iI h)) 164 n (iI b)) 147 40 (iI (n + 1)) 147 40 = iI (n + 1) := gs_up_eq _ _ _ _
    refine ⟨iI (n + 1), gs_up (gs_up (gs_up (gs_up M 135 n (iI p)) 136 n (iI h)) 137 n (iI b)) 134 7 (iI (n + 1)), gs_up (gs_up (gs_up (gs_up (gs_up (gs_up (gs_up (gs_up (gs_up M 135 n (iI p)) 136 n (iI h)) 137 n (iI b)) 134 7 (iI (n + 1))) 147 0 (iI 0)) 162 n (iI p)) 163 n (iI h)) 164 n (iI b)) 147 40 (iI (n + 1)), ?_, ?_, s, ma_la T p h b, V, ⟨W.1, w', W.2.2⟩, C1.lo w' (((((iv_lo.rf.up (i := 147) (k := 0) (iI 0) (by decide)).up (i := 162) (k := n) (iI p) (by decide)).up (i := 163) (k := n) (iI h) (by decide)).up (i := 164) (k := n) (iI b) (by decide)).up (i := 147) (k := 40) (iI (n + 1)) (by decide)), D3⟩
    · unfold f_X11_lamp f_X1_add
      simp (disch := omega) only [qn0, qn1, qn2, qn3, qn4, qn5, qn6, qn7, qn8, qn9, qn10, qn11, qn12, qn13, qn14, qn15, qn16, qn17, qn18, qn24, qn30, qn31, qn32, qn33, qn36, qn38, qn40, qn41, qn42, qn43, qn45, qn47, qn48, qn49, qn50, qn51, qn52, qn53, qn57, qn58, qn59, qn60, qn61, qn62, qn63, qn91, qn93, qn97, qn99, qn100, qn103, qn104, qn112, qn113, qn115, qn116, qn118, qn119, qn121, qn124, qn173, qn177, qn240, qn255, qn295, qn352, qn353, qn533, qn999, qn1000, qn1023, qn6561, qn10000, qn20787, qn1000000, qn252645135, qn858993459, qn1000000000, qn1431655765, q_s1, q_s2, q_s3, q_s4, q_s5, iI_add, iI_sub, iI_mul, iI_neg, q_lt, q_le, q_eq, qz0, qz1, qz2, qz3, if_pos, if_neg, reduceIte, c_isP w C hp, c_isH w C hh, e1, y1, y2, y3, hv, y4, y5]
    · unfold f_X12_lamp
      simp (disch := omega) only [qn0, qn1, qn2, qn3, qn4, qn5, qn6, qn7, qn8, qn9, qn10, qn11, qn12, qn13, qn14, qn15, qn16, qn17, qn18, qn24, qn30, qn31, qn32, qn33, qn36, qn38, qn40, qn41, qn42, qn43, qn45, qn47, qn48, qn49, qn50, qn51, qn52, qn53, qn57, qn58, qn59, qn60, qn61, qn62, qn63, qn91, qn93, qn97, qn99, qn100, qn103, qn104, qn112, qn113, qn115, qn116, qn118, qn119, qn121, qn124, qn173, qn177, qn240, qn255, qn295, qn352, qn353, qn533, qn999, qn1000, qn1023, qn6561, qn10000, qn20787, qn1000000, qn252645135, qn858993459, qn1000000000, qn1431655765, q_s1, q_s2, q_s3, q_s4, q_s5, iI_add, iI_sub, iI_mul, iI_neg, q_lt, q_le, q_eq, qz0, qz1, qz2, qz3, if_pos, if_neg, reduceIte, m_isP w D2 hp, m_isH w D2 hh, e3, y1, t2, t3, hv, t4, t5]
theorem s_feed : gl_S_feed ma_Inv := by
  intro M L hI x1 x2 x3 x4 x5
  have hI0 := hI
  obtain ⟨s, T, V, W, C, D⟩ := hI
  have w := W.2.1
  obtain ⟨f1, f2, f3, f4, f5, f6, f7, f8, f9, f10, f11, f12, f13, f14, -⟩ := W.2.1
  have D1 := ma_D0 D w (iI 0)
  have e1 := C.ta
  have e2 := D1.ta
  have b1 := ma_tl_b x1
  have b2 := ma_tl_b x2
  have b3 := ma_tl_b x3
  have b4 := ma_tl_b x4
  have b5 := ma_tl_b x5
  rcases (by omega : 240 < T 3 7 + (ma_tl x1 + ma_tl x2 + ma_tl x3 + ma_tl x4 + ma_tl x5) ∨ T 3 7 + (ma_tl x1 + ma_tl x2 + ma_tl x3 + ma_tl x4 + ma_tl x5) ≤ 240) with c | c
  · refine ⟨iI (-1), M, gs_up M 147 0 (iI 0), ?_, ?_, hI0.ag (ma_g0 iv_ag.rf _)⟩
    · unfold f_X11_feed f_X7_size
      simp (disch := omega) only [qn0, qn1, qn2, qn3, qn4, qn5, qn6, qn7, qn8, qn9, qn10, qn11, qn12, qn13, qn14, qn15, qn16, qn17, qn18, qn24, qn30, qn31, qn32, qn33, qn36, qn38, qn40, qn41, qn42, qn43, qn45, qn47, qn48, qn49, qn50, qn51, qn52, qn53, qn57, qn58, qn59, qn60, qn61, qn62, qn63, qn91, qn93, qn97, qn99, qn100, qn103, qn104, qn112, qn113, qn115, qn116, qn118, qn119, qn121, qn124, qn173, qn177, qn240, qn255, qn295, qn352, qn353, qn533, qn999, qn1000, qn1023, qn6561, qn10000, qn20787, qn1000000, qn252645135, qn858993459, qn1000000000, qn1431655765, q_s1, q_s2, q_s3, q_s4, q_s5, iI_add, iI_sub, iI_mul, iI_neg, q_lt, q_le, q_eq, qz0, qz1, qz2, qz3, if_pos, if_neg, reduceIte, c_told, e1]
    · unfold f_X12_feed
      simp (disch := omega) only [qn0, qn1, qn2, qn3, qn4, qn5, qn6, qn7, qn8, qn9, qn10, qn11, qn12, qn13, qn14, qn15, qn16, qn17, qn18, qn24, qn30, qn31, qn32, qn33, qn36, qn38, qn40, qn41, qn42, qn43, qn45, qn47, qn48, qn49, qn50, qn51, qn52, qn53, qn57, qn58, qn59, qn60, qn61, qn62, qn63, qn91, qn93, qn97, qn99, qn100, qn103, qn104, qn112, qn113, qn115, qn116, qn118, qn119, qn121, qn124, qn173, qn177, qn240, qn255, qn295, qn352, qn353, qn533, qn999, qn1000, qn1023, qn6561, qn10000, qn20787, qn1000000, qn252645135, qn858993459, qn1000000000, qn1431655765, q_s1, q_s2, q_s3, q_s4, q_s5, iI_add, iI_sub, iI_mul, iI_neg, q_lt, q_le, q_eq, qz0, qz1, qz2, qz3, if_pos, if_neg, reduceIte, m_told, e2]
  · obtain ⟨M1, k1, W1, C1, g1⟩ := c_put W C x1 (by omega)
    have h1 := ma_pu_7 (T := T) x1
    obtain ⟨M2, k2, W2, C2, g2⟩ := c_put W1 C1 x2 (by omega)
    have h2 := ma_pu_7 (T := ma_pu T x1) x2
    obtain ⟨M3, k3, W3, C3, g3⟩ := c_put W2 C2 x3 (by omega)
    have h3 := ma_pu_7 (T := ma_pu (ma_pu T x1) x2) x3
    obtain ⟨M4, k4, W4, C4, g4⟩ := c_put W3 C3 x4 (by omega)
    have h4 := ma_pu_7 (T := ma_pu (ma_pu (ma_pu T x1) x2) x3) x4
    obtain ⟨M5, k5, W5, C5, g5⟩ := c_put W4 C4 x5 (by omega)
    have D2 := ma_D0 (D.hi w ((((g1.tr g2).tr g3).tr g4).tr g5)) w (iI 0)
    obtain ⟨N1, j1, -, D3, a1⟩ := m_put W D2 x1 (by omega)
    obtain ⟨N2, j2, -, D4, a2⟩ := m_put W1 D3 x2 (by omega)
    obtain ⟨N3, j3, -, D5, a3⟩ := m_put W2 D4 x3 (by omega)
    obtain ⟨N4, j4, -, D6, a4⟩ := m_put W3 D5 x4 (by omega)
    obtain ⟨N5, j5, -, D7, a5⟩ := m_put W4 D6 x5 (by omega)
    have e3 := C5.ta
    have e4 := D7.ta
    have e5 := D2.ta
    refine ⟨iI (ma_pu (ma_pu (ma_pu (ma_pu (ma_pu T x1) x2) x3) x4) x5 3 7), M5, N5, ?_, ?_, s, ma_pu (ma_pu (ma_pu (ma_pu (ma_pu T x1) x2) x3) x4) x5, V, W5, C5.lo W5.2.1 ((((((iv_lo.rf.up _ (by decide)).tr a1).tr a2).tr a3).tr a4).tr a5), D7⟩
    · unfold f_X11_feed f_X7_size
      simp (disch := omega) only [qn0, qn1, qn2, qn3, qn4, qn5, qn6, qn7, qn8, qn9, qn10, qn11, qn12, qn13, qn14, qn15, qn16, qn17, qn18, qn24, qn30, qn31, qn32, qn33, qn36, qn38, qn40, qn41, qn42, qn43, qn45, qn47, qn48, qn49, qn50, qn51, qn52, qn53, qn57, qn58, qn59, qn60, qn61, qn62, qn63, qn91, qn93, qn97, qn99, qn100, qn103, qn104, qn112, qn113, qn115, qn116, qn118, qn119, qn121, qn124, qn173, qn177, qn240, qn255, qn295, qn352, qn353, qn533, qn999, qn1000, qn1023, qn6561, qn10000, qn20787, qn1000000, qn252645135, qn858993459, qn1000000000, qn1431655765, q_s1, q_s2, q_s3, q_s4, q_s5, iI_add, iI_sub, iI_mul, iI_neg, q_lt, q_le, q_eq, qz0, qz1, qz2, qz3, if_pos, if_neg, reduceIte, c_told, e1, k1, k2, k3, k4, k5, e3]
    · unfold f_X12_feed
      simp (disch := omega) only [qn0, qn1, qn2, qn3, qn4, qn5, qn6, qn7, qn8, qn9, qn10, qn11, qn12, qn13, qn14, qn15, qn16, qn17, qn18, qn24, qn30, qn31, qn32, qn33, qn36, qn38, qn40, qn41, qn42, qn43, qn45, qn47, qn48, qn49, qn50, qn51, qn52, qn53, qn57, qn58, qn59, qn60, qn61, qn62, qn63, qn91, qn93, qn97, qn99, qn100, qn103, qn104, qn112, qn113, qn115, qn116, qn118, qn119, qn121, qn124, qn173, qn177, qn240, qn255, qn295, qn352, qn353, qn533, qn999, qn1000, qn1023, qn6561, qn10000, qn20787, qn1000000, qn252645135, qn858993459, qn1000000000, qn1431655765, q_s1, q_s2, q_s3, q_s4, q_s5, iI_add, iI_sub, iI_mul, iI_neg, q_lt, q_le, q_eq, qz0, qz1, qz2, qz3, if_pos, if_neg, reduceIte, m_told, e5, j1, j2, j3, j4, j5, e4]
