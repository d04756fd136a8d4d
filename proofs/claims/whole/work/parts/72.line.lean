/-! bits; what must be worried, COUPLES at rest, the LINE -/
theorem b_tb {z i : Nat} (hz : z < 2147483648) (hi : i < 31) : (iI z >>> (iI i &&& iI 31)) &&& iI 1 = iI (if z.testBit i then 1 else 0) := by
  have h1 : (0 : Int) ≤ (z : Int) / 2 ^ i := Int.ediv_nonneg (by omega) (Int.pow_nonneg (by decide))
  have h2 : (z : Int) / 2 ^ i ≤ z := Int.ediv_le_self _ (by omega)
  rw [q_shr i (by omega) (by omega), q_an1 (by omega), Nat.testBit_eq_decide_div_mod_eq]
  have e : (z : Int) / 2 ^ i % 2 = ((z / 2 ^ i % 2 : Nat) : Int) := by
    rw [Int.natCast_emod, Int.natCast_ediv, Int.natCast_pow]
    rfl
  rw [e]
  congr 1
  by_cases c : z / 2 ^ i % 2 = 1
  · rw [c]
    simp
  · have c0 : z / 2 ^ i % 2 = 0 := by omega
    rw [c0]
    simp
theorem b_sh {b : Nat} (hb : b < 31) : iI 1 <<< (iI b &&& iI 31) = iI (2 ^ b : Nat) := by
  have h := Nat.pow_lt_pow_right (a := 2) (by decide) (show b < 32 by omega)
  have e := pk_shlN (n := 1) (nI b &&& 31) b (q_sl b (by omega)) (by omega)
  rw [Nat.one_mul] at e
  exact e
theorem b_or (x y : Nat) : iI x ||| iI y = iI ((x ||| y : Nat) : Int) := by
  apply Int32.toBitVec_inj.1
  show BitVec.ofInt 32 x ||| BitVec.ofInt 32 y = BitVec.ofInt 32 ((x ||| y : Nat) : Int)
  rw [BitVec.ofInt_natCast, BitVec.ofInt_natCast, BitVec.ofInt_natCast, BitVec.ofNat_or]
theorem b_and (x y : Nat) : iI x &&& iI y = iI ((x &&& y : Nat) : Int) := by
  apply Int32.toBitVec_inj.1
  show BitVec.ofInt 32 x &&& BitVec.ofInt 32 y = BitVec.ofInt 32 ((x &&& y : Nat) : Int)
  rw [BitVec.ofInt_natCast, BitVec.ofInt_natCast, BitVec.ofInt_natCast, BitVec.ofNat_and]
theorem ma_dn {σ ρ : Type} (F : Nat → Int32 → σ → Option ρ) (n : Nat) (P : Nat → σ → Prop) (Q : ρ → Prop)
    (hs : ∀ (f i : Nat) (s : σ), i < n → P (i + 1) s → (∃ s', F (f + 1) (iI i) s = F f (iI ((i : Int) + -1)) s' ∧ P i s') ∨ ∃ r, F (f + 1) (iI i) s = some r ∧ Q r)
    (he : ∀ (f : Nat) (s : σ), P 0 s → ∃ r, F (f + 1) (iI (-1)) s = some r ∧ Q r) :
    ∀ (i : Nat) (s : σ) (f : Nat), i ≤ n → P i s → i < f → ∃ r, F f (iI ((i : Int) + -1)) s = some r ∧ Q r := by
  intro i
  induction i with
  | zero =>
    intro s f hi hp hf
    obtain ⟨g, rfl⟩ : ∃ g, f = g + 1 := ⟨f - 1, by omega⟩
    exact he g s hp
  | succ i ih =>
    intro s f hi hp hf
    obtain ⟨g, rfl⟩ : ∃ g, f = g + 1 := ⟨f - 1, by omega⟩
    rw [show ((i + 1 : Nat) : Int) + -1 = i by omega]
    rcases hs g i s (by omega) hp with ⟨s', e, hp'⟩ | h
    · rw [e]
      exact ih s' g (by omega) hp' (by omega)
    · exact h
section Line
variable {s : Nat → Int} {T : Nat → Nat → Int} {V : ma_V} {M : gs_M}
/-- the first place at which it isn't less -/
def ma_nd (f : Nat → Int) (v : Int) : Nat → Nat → Int
  | 0, _ => -1
  | d + 1, i => if f i < v then ma_nd f v d (i + 1) else i
theorem ma_nd0 (f : Nat → Int) (v : Int) {i : Nat} (hi : i < 10) : ma_nd f v (10 - i) i = if f i < v then ma_nd f v (10 - (i + 1)) (i + 1) else i := by
  obtain ⟨d, e⟩ : ∃ d, 10 - i = d + 1 := ⟨9 - i, by omega⟩
  rw [e, show 10 - (i + 1) = d by omega]
  simp only [ma_nd]
def ma_ne (s : Nat → Int) (T : Nat → Nat → Int) (V : ma_V) (p h : Nat) (u : Nat) : Int := ma_wk s T V p h (s (6 * p)) u
theorem c_nd (W : ma_W s T V) (C : ma_C s T V M) {p h : Nat} (hp : (p : Int) < T 3 0) (hh : (h : Int) < T 1 0) {v : Int} (hv : 0 ≤ v ∧ v ≤ 10) : ∃ M1, l_X11_needs_31 (iI p) (iI h) (iI v) gs_FU (iI 0) M = some (iI (ma_nd (ma_ne s T V p h) v 10 0), M1) ∧ iv_ag M M1 := by
  have f1 := W.2.1.1
  have p8 : p < 8 := by omega
  have o := W.1.1 p p8
  unfold ma_one at o
  obtain ⟨r, e, M1, rfl, g⟩ := ma_up0 (fun f i (N : gs_M) => l_X11_needs_31 (iI p) (iI h) (iI v) f i N) 10
    (fun i N => iv_ag M N ∧ ma_nd (ma_ne s T V p h) v (10 - i) i = ma_nd (ma_ne s T V p h) v 10 0)
    (fun r => ∃ M1, r = (iI (ma_nd (ma_ne s T V p h) v 10 0), M1) ∧ iv_ag M M1) M (by decide) ⟨iv_ag.rf, rfl⟩
    (by
      intro f i N hi ⟨hM, hP⟩
      have CN := C.ag W.2.1 hM
      obtain ⟨N1, e1, g1⟩ := c_wk W CN hp hh (g := s (6 * p)) (w := i) (by omega) (by omega)
      rw [show ma_wk s T V p h (s (6 * p)) i = ma_ne s T V p h i from rfl] at e1
      have b1 : 0 ≤ ma_ne s T V p h i ∧ ma_ne s T V p h i ≤ 10 := ma_wk_b _ _ _ _ _ _ _
      have e2 := c_of0 CN.st p8
      rw [ma_nd0 _ _ hi] at hP
      simp only [l_X11_needs_31]
      by_cases c : ma_ne s T V p h i < v
      · left
        rw [if_pos c] at hP
        refine ⟨N1, ?_, hM.tr g1, hP⟩
        simp (disch := omega) only [qn0, qn1, qn2, qn3, qn4, qn5, qn6, qn7, qn8, qn9, qn10, qn11, qn12, qn13, qn14, qn15, qn16, qn17, qn18, qn24, qn30, qn31, qn32, qn33, qn36, qn38, qn40, qn41, qn42, qn43, qn45, qn47, qn48, qn49, qn50, qn51, qn52, qn53, qn57, qn58, qn59, qn60, qn61, qn62, qn63, qn91, qn93, qn97, qn99, qn100, qn103, qn104, qn112, qn113, qn115, qn116, qn118, qn119, qn121, qn124, qn173, qn177, qn240, qn255, qn295, qn352, qn353, qn533, qn999, qn1000, qn1023, qn6561, qn10000, qn20787, qn1000000, qn252645135, qn858993459, qn1000000000, qn1431655765, q_s1, q_s2, q_s3, q_s4, q_s5, iI_add, iI_sub, iI_mul, iI_neg, q_lt, q_le, q_eq, qz0, qz1, qz2, qz3, if_pos, if_neg, reduceIte, e2, e1]
      · right
        rw [if_neg c] at hP
        refine ⟨(iI i, N1), ?_, N1, by rw [hP], hM.tr g1⟩
        simp (disch := omega) only [qn0, qn1, qn2, qn3, qn4, qn5, qn6, qn7, qn8, qn9, qn10, qn11, qn12, qn13, qn14, qn15, qn16, qn17, qn18, qn24, qn30, qn31, qn32, qn33, qn36, qn38, qn40, qn41, qn42, qn43, qn45, qn47, qn48, qn49, qn50, qn51, qn52, qn53, qn57, qn58, qn59, qn60, qn61, qn62, qn63, qn91, qn93, qn97, qn99, qn100, qn103, qn104, qn112, qn113, qn115, qn116, qn118, qn119, qn121, qn124, qn173, qn177, qn240, qn255, qn295, qn352, qn353, qn533, qn999, qn1000, qn1023, qn6561, qn10000, qn20787, qn1000000, qn252645135, qn858993459, qn1000000000, qn1431655765, q_s1, q_s2, q_s3, q_s4, q_s5, iI_add, iI_sub, iI_mul, iI_neg, q_lt, q_le, q_eq, qz0, qz1, qz2, qz3, if_pos, if_neg, reduceIte, e2, e1])
    (by
      intro f N ⟨hM, hP⟩
      refine ⟨(iI (-1), N), ?_, N, by rw [← hP]; rfl, hM⟩
      simp only [l_X11_needs_31]
      simp (disch := omega) only [qn0, qn1, qn2, qn3, qn4, qn5, qn6, qn7, qn8, qn9, qn10, qn11, qn12, qn13, qn14, qn15, qn16, qn17, qn18, qn24, qn30, qn31, qn32, qn33, qn36, qn38, qn40, qn41, qn42, qn43, qn45, qn47, qn48, qn49, qn50, qn51, qn52, qn53, qn57, qn58, qn59, qn60, qn61, qn62, qn63, qn91, qn93, qn97, qn99, qn100, qn103, qn104, qn112, qn113, qn115, qn116, qn118, qn119, qn121, qn124, qn173, qn177, qn240, qn255, qn295, qn352, qn353, qn533, qn999, qn1000, qn1023, qn6561, qn10000, qn20787, qn1000000, qn252645135, qn858993459, qn1000000000, qn1431655765, q_s1, q_s2, q_s3, q_s4, q_s5, iI_add, iI_sub, iI_mul, iI_neg, q_lt, q_le, q_eq, qz0, qz1, qz2, qz3, if_pos, if_neg, reduceIte])
  exact ⟨M1, e, g⟩
theorem ma_ne_su {p h : Nat} (u : Int) : ma_wk (ma_su s (6 * p + 1) u) T V p h (ma_su s (6 * p + 1) u (6 * p)) (ma_su s (6 * p + 1) u (6 * p + 1)) = ma_wk s T V p h (s (6 * p)) u := by
  unfold ma_wk
  rw [ma_su_eq, ma_su_ne _ _ (show 6 * p ≠ 6 * p + 1 by omega), ma_su_ne _ _ (show 6 * p + 2 ≠ 6 * p + 1 by omega), ma_su_ne _ _ (show 6 * p + 3 ≠ 6 * p + 1 by omega)]
theorem m_nd (W : ma_W s T V) (D : ma_M s T V M) {p h : Nat} (hp : (p : Int) < T 3 0) (hh : (h : Int) < T 1 0) {v : Int} (hv : 0 ≤ v ∧ v ≤ 10) (x : Int32) : ∃ M1, l_X12_needs_50 (iI p) (iI h) (iI v) x gs_FU (iI (-1)) (iI 9) M = some (iI (ma_nd (ma_ne s T V p h) v 10 0), iI (-1), M1) ∧ iv_lo M M1 ∧ ∃ u, ma_M (ma_su s (6 * p + 1) u) T V M1 := by
  have w := W.2.1
  have f1 := W.2.1.1
  have p8 : p < 8 := by omega
  obtain ⟨r, e, M1, rfl, g⟩ := ma_dn (fun f i (q : Int32 × gs_M) => l_X12_needs_50 (iI p) (iI h) (iI v) x f q.1 i q.2) 10
    (fun i q => q.1 = iI (ma_nd (ma_ne s T V p h) v (10 - i) i) ∧ iv_lo M q.2 ∧ ∃ u, ma_M (ma_su s (6 * p + 1) u) T V q.2)
    (fun r => ∃ M1, r = (iI (ma_nd (ma_ne s T V p h) v 10 0), iI (-1), M1) ∧ iv_lo M M1 ∧ ∃ u, ma_M (ma_su s (6 * p + 1) u) T V M1)
    (by
      rintro f i ⟨a, N⟩ hi ⟨ha, hM, u, hD⟩
      left
      simp only at ha hM hD
      subst ha
      have W1 : ma_W (ma_su s (6 * p + 1) i) T V := ⟨W.1.su p8 (by decide) (by have : ma_rg 1 = 9 := rfl; omega), W.2⟩
      have D1 : ma_M (ma_su s (6 * p + 1) i) T V (gs_up N 158 (6 * p + 1) (iI i)) := by
        have := hD.su w (6 * p + 1) i
        rw [ma_su_su] at this
        exact this
      obtain ⟨N1, e1, g1⟩ := m_now W1 D1 hp hh
      rw [ma_ne_su, show ma_wk s T V p h (s (6 * p)) i = ma_ne s T V p h i from rfl] at e1
      have b1 : 0 ≤ ma_ne s T V p h i ∧ ma_ne s T V p h i ≤ 10 := ma_wk_b _ _ _ _ _ _ _
      have e2 : ∀ y, gs_wr N 158 533 (iI (6 * p + 1)) y = some (gs_up N 158 (6 * p + 1) y) := fun y => m_set (k := 1) p8 (by decide) y
      refine ⟨(iI (ma_nd (ma_ne s T V p h) v (10 - i) i), N1), ?_, rfl, (hM.up _ (by decide)).tr g1.lo, i, D1.ag w g1⟩
      rw [ma_nd0 _ _ hi]
      simp only [l_X12_needs_50]
      by_cases c : ma_ne s T V p h i < v
      · simp (disch := omega) only [qn0, qn1, qn2, qn3, qn4, qn5, qn6, qn7, qn8, qn9, qn10, qn11, qn12, qn13, qn14, qn15, qn16, qn17, qn18, qn24, qn30, qn31, qn32, qn33, qn36, qn38, qn40, qn41, qn42, qn43, qn45, qn47, qn48, qn49, qn50, qn51, qn52, qn53, qn57, qn58, qn59, qn60, qn61, qn62, qn63, qn91, qn93, qn97, qn99, qn100, qn103, qn104, qn112, qn113, qn115, qn116, qn118, qn119, qn121, qn124, qn173, qn177, qn240, qn255, qn295, qn352, qn353, qn533, qn999, qn1000, qn1023, qn6561, qn10000, qn20787, qn1000000, qn252645135, qn858993459, qn1000000000, qn1431655765, q_s1, q_s2, q_s3, q_s4, q_s5, iI_add, iI_sub, iI_mul, iI_neg, q_lt, q_le, q_eq, qz0, qz1, qz2, qz3, if_pos, if_neg, reduceIte, e2, e1]
      · simp (disch := omega) only [qn0, qn1, qn2, qn3, qn4, qn5, qn6, qn7, qn8, qn9, qn10, qn11, qn12, qn13, qn14, qn15, qn16, qn17, qn18, qn24, qn30, qn31, qn32, qn33, qn36, qn38, qn40, qn41, qn42, qn43, qn45, qn47, qn48, qn49, qn50, qn51, qn52, qn53, qn57, qn58, qn59, qn60, qn61, qn62, qn63, qn91, qn93, qn97, qn99, qn100, qn103, qn104, qn112, qn113, qn115, qn116, qn118, qn119, qn121, qn124, qn173, qn177, qn240, qn255, qn295, qn352, qn353, qn533, qn999, qn1000, qn1023, qn6561, qn10000, qn20787, qn1000000, qn252645135, qn858993459, qn1000000000, qn1431655765, q_s1, q_s2, q_s3, q_s4, q_s5, iI_add, iI_sub, iI_mul, iI_neg, q_lt, q_le, q_eq, qz0, qz1, qz2, qz3, if_pos, if_neg, reduceIte, e2, e1])
    (by
      rintro f ⟨a, N⟩ ⟨ha, hM, hD⟩
      simp only at ha hM hD
      refine ⟨(a, iI (-1), N), ?_, N, by rw [ha], hM, hD⟩
      simp only [l_X12_needs_50]
      simp (disch := omega) only [qn0, qn1, qn2, qn3, qn4, qn5, qn6, qn7, qn8, qn9, qn10, qn11, qn12, qn13, qn14, qn15, qn16, qn17, qn18, qn24, qn30, qn31, qn32, qn33, qn36, qn38, qn40, qn41, qn42, qn43, qn45, qn47, qn48, qn49, qn50, qn51, qn52, qn53, qn57, qn58, qn59, qn60, qn61, qn62, qn63, qn91, qn93, qn97, qn99, qn100, qn103, qn104, qn112, qn113, qn115, qn116, qn118, qn119, qn121, qn124, qn173, qn177, qn240, qn255, qn295, qn352, qn353, qn533, qn999, qn1000, qn1023, qn6561, qn10000, qn20787, qn1000000, qn252645135, qn858993459, qn1000000000, qn1431655765, q_s1, q_s2, q_s3, q_s4, q_s5, iI_add, iI_sub, iI_mul, iI_neg, q_lt, q_le, q_eq, qz0, qz1, qz2, qz3, if_pos, if_neg, reduceIte])
    10 (iI (-1), M) gs_FU (by omega) ⟨rfl, iv_lo.rf, s (6 * p + 1), by rw [ma_su_id]; exact D⟩ (by decide)
  exact ⟨M1, e, g⟩
/-- one goes ahead of the others -/
def ma_fl (c : Nat → Int) (z : Nat) : Nat → Int
  | 0 => -1
  | i + 1 => if z.testBit i = true then ma_fl c z i else if ma_fl c z i = -1 then i else if c i ≤ c (ma_fl c z i).toNat then ma_fl c z i else i
theorem ma_fl_b (c : Nat → Int) (z i : Nat) : -1 ≤ ma_fl c z i ∧ ma_fl c z i < i := by
  induction i with
  | zero => simp [ma_fl]
  | succ i ih =>
    simp only [ma_fl]
    split
    · omega
    · split
      · omega
      · split <;> omega
theorem ma_fl_n (c : Nat → Int) (z : Nat) {i : Nat} (h : 0 ≤ ma_fl c z i) : z.testBit (ma_fl c z i).toNat = false := by
  induction i with
  | zero => simp [ma_fl] at h
  | succ i ih =>
    simp only [ma_fl] at h ⊢
    by_cases c1 : z.testBit i = true
    · rw [if_pos c1] at h ⊢
      exact ih h
    · have c1' : z.testBit i = false := by simpa using c1
      rw [if_neg c1] at h ⊢
      by_cases c2 : ma_fl c z i = -1
      · rw [if_pos c2]
        simpa using c1'
      · rw [if_neg c2] at h ⊢
        have b := ma_fl_b c z i
        by_cases c3 : c i ≤ c (ma_fl c z i).toNat
        · rw [if_pos c3]
          exact ih (by omega)
        · rw [if_neg c3]
          simpa using c1'
theorem ma_fl_e (c : Nat → Int) (z : Nat) {i j : Nat} (hj : j < i) (h : z.testBit j = false) : 0 ≤ ma_fl c z i := by
  induction i with
  | zero => omega
  | succ i ih =>
    have b := ma_fl_b c z i
    simp only [ma_fl]
    by_cases c1 : z.testBit i = true
    · rw [if_pos c1]
      rcases (by omega : j = i ∨ j < i) with d | d
      · subst d
        rw [h] at c1
        cases c1
      · exact ih d
    · rw [if_neg c1]
      by_cases c2 : ma_fl c z i = -1
      · rw [if_pos c2]; omega
      · rw [if_neg c2]
        split <;> omega
def ma_ct (z : Nat) : Nat → Nat
  | 0 => 0
  | i + 1 => ma_ct z i + (if z.testBit i = true then 1 else 0)
theorem ma_ct_e {z n : Nat} (h : ma_ct z n < n) : ∃ j, j < n ∧ z.testBit j = false := by
  induction n with
  | zero => omega
  | succ n ih =>
    simp only [ma_ct] at h
    by_cases c : z.testBit n = true
    · rw [if_pos c] at h
      obtain ⟨j, h1, h2⟩ := ih (by omega)
      exact ⟨j, by omega, h2⟩
    · exact ⟨n, by omega, by simpa using c⟩
theorem ma_ct_o {z b n : Nat} (h : z.testBit b = false) : ma_ct (z ||| 2 ^ b) n = ma_ct z n + (if b < n then 1 else 0) := by
  induction n with
  | zero => simp [ma_ct]
  | succ n ih =>
    simp only [ma_ct]
    rw [ih, Nat.testBit_or, Nat.testBit_two_pow]
    by_cases c : b = n
    · subst c
      rw [h]
      simp
    · rw [decide_eq_false c]
      simp only [Bool.or_false]
      rcases (by omega : b < n ∨ n < b) with d | d
      · rw [if_pos d, if_pos (show b < n + 1 by omega)]; omega
      · rw [if_neg (show ¬ b < n by omega), if_neg (show ¬ b < n + 1 by omega)]; omega
def ma_li (c : Nat → Int) (n : Nat) : Nat → Int × Nat
  | 0 => (0, 0)
  | k + 1 => (10 * (ma_li c n k).1 + ma_fl c (ma_li c n k).2 n, (ma_li c n k).2 ||| 2 ^ (ma_fl c (ma_li c n k).2 n).toNat)
theorem ma_li_b (c : Nat → Int) {n : Nat} (hn : n ≤ 8) {k : Nat} (hk : k ≤ n) : ma_ct (ma_li c n k).2 n = k ∧ (ma_li c n k).2 < 256 := by
  induction k with
  | zero =>
    refine ⟨?_, by simp [ma_li]⟩
    simp only [ma_li]
    clear hn hk
    induction n with
    | zero => rfl
    | succ n ih => simp [ma_ct, ih]
  | succ k ih =>
    obtain ⟨h1, h2⟩ := ih (by omega)
    obtain ⟨j, j1, j2⟩ := ma_ct_e (z := (ma_li c n k).2) (n := n) (by omega)
    have h3 := ma_fl_e c (ma_li c n k).2 j1 j2
    have h4 := ma_fl_n c (ma_li c n k).2 h3
    have h5 := ma_fl_b c (ma_li c n k).2 n
    simp only [ma_li]
    refine ⟨?_, ?_⟩
    · rw [ma_ct_o h4, h1, if_pos (by omega)]
    · have h6 := Nat.pow_lt_pow_right (a := 2) (by decide) (show (ma_fl c (ma_li c n k).2 n).toNat < 8 by omega)
      exact Nat.or_lt_two_pow (n := 8) h2 h6
theorem ma_li_f (c : Nat → Int) {n : Nat} (hn : n ≤ 8) {k : Nat} (hk : k < n) : 0 ≤ ma_fl c (ma_li c n k).2 n := by
  obtain ⟨h1, h2⟩ := ma_li_b c hn (k := k) (by omega)
  obtain ⟨j, j1, j2⟩ := ma_ct_e (z := (ma_li c n k).2) (n := n) (by omega)
  exact ma_fl_e c (ma_li c n k).2 j1 j2
def ma_cn (s : Nat → Int) (T : Nat → Nat → Int) (V : ma_V) (p : Nat) : Int := ma_cs s T V (T 3 2) p
theorem c_fl (W : ma_W s T V) (C : ma_C s T V M) (hr : ∀ p : Nat, (p : Int) < T 3 0 → M 146 p = iI (ma_cn s T V p)) {z : Nat} (hz : z < 256) : l_X11_firstInLine_4 M (iI z) gs_FU (iI (-1)) (iI 0) = some (iI (ma_fl (ma_cn s T V) z (T 3 0).toNat), iI ((T 3 0).toNat : Nat)) := by
  have f1 := W.2.1.1
  have e0 := c_crowd C
  obtain ⟨r, e, hr⟩ := ma_up0 (fun f i (q : Int32) => l_X11_firstInLine_4 M (iI z) f q i) (T 3 0).toNat
    (fun i q => q = iI (ma_fl (ma_cn s T V) z i))
    (fun r => r = (iI (ma_fl (ma_cn s T V) z (T 3 0).toNat), iI ((T 3 0).toNat : Nat))) (iI (-1)) (by omega) rfl
    (by
      intro f i q hi hq
      subst hq
      left
      refine ⟨_, ?_, rfl⟩
      have b := ma_fl_b (ma_cn s T V) z i
      have e1 := b_tb (z := z) (i := i) (by omega) (by omega)
      have e2 : gs_rd M 146 10 (iI i) = some (iI (ma_cn s T V i)) := by rw [q_rdn i rfl (by omega) (by decide), hr i (by omega)]
      have b1 : -540 ≤ ma_cn s T V i ∧ ma_cn s T V i ≤ 540 := ma_cs_b W.1 T V _ i
      have b2 : -540 ≤ ma_cn s T V (ma_fl (ma_cn s T V) z i).toNat ∧ ma_cn s T V (ma_fl (ma_cn s T V) z i).toNat ≤ 540 := ma_cs_b W.1 T V _ _
      simp only [l_X11_firstInLine_4, ma_fl]
      by_cases c1 : z.testBit i = true
      · rw [if_pos c1] at e1
        simp (disch := omega) only [qn0, qn1, qn2, qn3, qn4, qn5, qn6, qn7, qn8, qn9, qn10, qn11, qn12, qn13, qn14, qn15, qn16, qn17, qn18, qn24, qn30, qn31, qn32, qn33, qn36, qn38, qn40, qn41, qn42, qn43, qn45, qn47, qn48, qn49, qn50, qn51, qn52, qn53, qn57, qn58, qn59, qn60, qn61, qn62, qn63, qn91, qn93, qn97, qn99, qn100, qn103, qn104, qn112, qn113, qn115, qn116, qn118, qn119, qn121, qn124, qn173, qn177, qn240, qn255, qn295, qn352, qn353, qn533, qn999, qn1000, qn1023, qn6561, qn10000, qn20787, qn1000000, qn252645135, qn858993459, qn1000000000, qn1431655765, q_s1, q_s2, q_s3, q_s4, q_s5, iI_add, iI_sub, iI_mul, iI_neg, q_lt, q_le, q_eq, qz0, qz1, qz2, qz3, if_pos, if_neg, reduceIte, e0, e1, c1]
      · rw [if_neg c1] at e1
        by_cases c2 : ma_fl (ma_cn s T V) z i = -1
        · simp (disch := omega) only [qn0, qn1, qn2, qn3, qn4, qn5, qn6, qn7, qn8, qn9, qn10, qn11, qn12, qn13, qn14, qn15, qn16, qn17, qn18, qn24, qn30, qn31, qn32, qn33, qn36, qn38, qn40, qn41, qn42, qn43, qn45, qn47, qn48, qn49, qn50, qn51, qn52, qn53, qn57, qn58, qn59, qn60, qn61, qn62, qn63, qn91, qn93, qn97, qn99, qn100, qn103, qn104, qn112, qn113, qn115, qn116, qn118, qn119, qn121, qn124, qn173, qn177, qn240, qn255, qn295, qn352, qn353, qn533, qn999, qn1000, qn1023, qn6561, qn10000, qn20787, qn1000000, qn252645135, qn858993459, qn1000000000, qn1431655765, q_s1, q_s2, q_s3, q_s4, q_s5, iI_add, iI_sub, iI_mul, iI_neg, q_lt, q_le, q_eq, qz0, qz1, qz2, qz3, if_pos, if_neg, reduceIte, e0, e1, c1, Bool.false_eq_true, c2]
        · have e3 : gs_rd M 146 10 (iI (ma_fl (ma_cn s T V) z i)) = some (iI (ma_cn s T V (ma_fl (ma_cn s T V) z i).toNat)) := by
            rw [q_rd ⟨by omega, by omega, by decide⟩, hr _ (by omega)]
          rcases (by omega : ma_cn s T V i ≤ ma_cn s T V (ma_fl (ma_cn s T V) z i).toNat ∨ ma_cn s T V (ma_fl (ma_cn s T V) z i).toNat < ma_cn s T V i) with c3 | c3 <;> simp (disch := omega) only [qn0, qn1, qn2, qn3, qn4, qn5, qn6, qn7, qn8, qn9, qn10, qn11, qn12, qn13, qn14, qn15, qn16, qn17, qn18, qn24, qn30, qn31, qn32, qn33, qn36, qn38, qn40, qn41, qn42, qn43, qn45, qn47, qn48, qn49, qn50, qn51, qn52, qn53, qn57, qn58, qn59, qn60, qn61, qn62, qn63, qn91, qn93, qn97, qn99, qn100, qn103, qn104, qn112, qn113, qn115, qn116, qn118, qn119, qn121, qn124, qn173, qn177, qn240, qn255, qn295, qn352, qn353, qn533, qn999, qn1000, qn1023, qn6561, qn10000, qn20787, qn1000000, qn252645135, qn858993459, qn1000000000, qn1431655765, q_s1, q_s2, q_s3, q_s4, q_s5, iI_add, iI_sub, iI_mul, iI_neg, q_lt, q_le, q_eq, qz0, qz1, qz2, qz3, if_pos, if_neg, reduceIte, e0, e1, c1, Bool.false_eq_true, c2, e2, e3])
    (by
      intro f q hq
      subst hq
      refine ⟨_, ?_, rfl⟩
      simp only [l_X11_firstInLine_4]
      simp (disch := omega) only [qn0, qn1, qn2, qn3, qn4, qn5, qn6, qn7, qn8, qn9, qn10, qn11, qn12, qn13, qn14, qn15, qn16, qn17, qn18, qn24, qn30, qn31, qn32, qn33, qn36, qn38, qn40, qn41, qn42, qn43, qn45, qn47, qn48, qn49, qn50, qn51, qn52, qn53, qn57, qn58, qn59, qn60, qn61, qn62, qn63, qn91, qn93, qn97, qn99, qn100, qn103, qn104, qn112, qn113, qn115, qn116, qn118, qn119, qn121, qn124, qn173, qn177, qn240, qn255, qn295, qn352, qn353, qn533, qn999, qn1000, qn1023, qn6561, qn10000, qn20787, qn1000000, qn252645135, qn858993459, qn1000000000, qn1431655765, q_s1, q_s2, q_s3, q_s4, q_s5, iI_add, iI_sub, iI_mul, iI_neg, q_lt, q_le, q_eq, qz0, qz1, qz2, qz3, if_pos, if_neg, reduceIte, e0])
  subst hr
  exact e
/-- scratch alone has changed -/
def iv_co (M M1 : gs_M) : Prop := ∀ a b, iv_scr a b = false → M1 a b = M a b
theorem iv_co.rf {M : gs_M} : iv_co M M := fun _ _ _ => rfl
theorem iv_co.tr {M M1 M2 : gs_M} (h : iv_co M M1) (h2 : iv_co M1 M2) : iv_co M M2 := fun a b e => (h2 a b e).trans (h a b e)
theorem iv_ag.co {M M1 : gs_M} (h : iv_ag M M1) : iv_co M M1 := fun a b e => h a b (iv_fin_scr e)
theorem iv_co.up {M M1 : gs_M} (h : iv_co M M1) {i k : Nat} (v : Int32) (hs : iv_scr i k = true) : iv_co M (gs_up M1 i k v) := by
  intro a b e
  rw [gs_up_at]
  by_cases hc : a = i ∧ b = k
  · obtain ⟨rfl, rfl⟩ := hc
    rw [hs] at e
    cases e
  · rw [if_neg hc]
    exact h a b e
theorem iv_co.hi {M M1 : gs_M} (h : iv_co M M1) : iv_hi M M1 := fun a b _ e => h a b e
theorem iv_co.lo {M M1 : gs_M} (h : iv_co M M1) : iv_lo M M1 := fun a b _ e => h a b e
theorem ma_C.co {M1 : gs_M} (w : ma_wT T) (h : ma_C s T V M) (g : iv_co M M1) : ma_C s T V M1 := h.lo w g.lo
theorem ma_M.co {M1 : gs_M} (w : ma_wT T) (h : ma_M s T V M) (g : iv_co M M1) : ma_M s T V M1 := h.hi w g.hi
theorem ma_Inv.co {M M1 : gs_M} {L L1 : gs_L} (h : ma_Inv M L) (g : iv_co M M1) : ma_Inv M1 L1 := by
  obtain ⟨s, T, V, w, c, m⟩ := h
  exact ⟨s, T, V, w, c.co w.2.1 g, m.co w.2.1 g⟩
theorem c_ln1 (W : ma_W s T V) (C : ma_C s T V M) : ∃ M1, l_X11_line_11 gs_FU (iI 0) M = some (iI ((T 3 0).toNat : Nat), M1) ∧ iv_co M M1 ∧ ∀ p : Nat, (p : Int) < T 3 0 → M1 146 p = iI (ma_cn s T V p) := by
  obtain ⟨f1, f2, f3, f4, f5, f6, f7, f8, -⟩ := W.2.1
  obtain ⟨r, e, M1, rfl, g, h⟩ := ma_up0 (fun f i (N : gs_M) => l_X11_line_11 f i N) (T 3 0).toNat
    (fun i N => iv_co M N ∧ ∀ j, j < i → N 146 j = iI (ma_cn s T V j))
    (fun r => ∃ M1, r = (iI ((T 3 0).toNat : Nat), M1) ∧ iv_co M M1 ∧ ∀ p : Nat, (p : Int) < T 3 0 → M1 146 p = iI (ma_cn s T V p)) M (by omega) ⟨iv_co.rf, fun j hj => by omega⟩
    (by
      intro f i N hi ⟨hM, hP⟩
      left
      have CN := C.co W.2.1 hM
      obtain ⟨N1, e1, g1⟩ := c_case W CN (p := i) (by omega) f7
      have e2 : ∀ v, gs_wr N1 146 10 (iI i) v = some (gs_up N1 146 i v) := fun v => q_wrn i rfl (by omega) (by decide)
      refine ⟨gs_up N1 146 i (iI (ma_cs s T V (T 3 2) i)), ?_, (hM.tr g1.co).up _ rfl, fun j hj => ?_⟩
      · simp only [l_X11_line_11]
        simp (disch := omega) only [qn0, qn1, qn2, qn3, qn4, qn5, qn6, qn7, qn8, qn9, qn10, qn11, qn12, qn13, qn14, qn15, qn16, qn17, qn18, qn24, qn30, qn31, qn32, qn33, qn36, qn38, qn40, qn41, qn42, qn43, qn45, qn47, qn48, qn49, qn50, qn51, qn52, qn53, qn57, qn58, qn59, qn60, qn61, qn62, qn63, qn91, qn93, qn97, qn99, qn100, qn103, qn104, qn112, qn113, qn115, qn116, qn118, qn119, qn121, qn124, qn173, qn177, qn240, qn255, qn295, qn352, qn353, qn533, qn999, qn1000, qn1023, qn6561, qn10000, qn20787, qn1000000, qn252645135, qn858993459, qn1000000000, qn1431655765, q_s1, q_s2, q_s3, q_s4, q_s5, iI_add, iI_sub, iI_mul, iI_neg, q_lt, q_le, q_eq, qz0, qz1, qz2, qz3, if_pos, if_neg, reduceIte, f_X4_holding, CN.la, c_crowd CN, e1, e2]
      · rcases (by omega : j = i ∨ j < i) with d | d
        · subst d
          rw [gs_up_eq]
          rfl
        · rw [ma_cell_ne _ _ _ _ _ _ (by omega), g1 146 j rfl]
          exact hP j d)
    (by
      intro f N ⟨hM, hP⟩
      have CN := C.co W.2.1 hM
      refine ⟨_, ?_, N, rfl, hM, fun p hp => hP p (by omega)⟩
      simp only [l_X11_line_11]
      simp (disch := omega) only [qn0, qn1, qn2, qn3, qn4, qn5, qn6, qn7, qn8, qn9, qn10, qn11, qn12, qn13, qn14, qn15, qn16, qn17, qn18, qn24, qn30, qn31, qn32, qn33, qn36, qn38, qn40, qn41, qn42, qn43, qn45, qn47, qn48, qn49, qn50, qn51, qn52, qn53, qn57, qn58, qn59, qn60, qn61, qn62, qn63, qn91, qn93, qn97, qn99, qn100, qn103, qn104, qn112, qn113, qn115, qn116, qn118, qn119, qn121, qn124, qn173, qn177, qn240, qn255, qn295, qn352, qn353, qn533, qn999, qn1000, qn1023, qn6561, qn10000, qn20787, qn1000000, qn252645135, qn858993459, qn1000000000, qn1431655765, q_s1, q_s2, q_s3, q_s4, q_s5, iI_add, iI_sub, iI_mul, iI_neg, q_lt, q_le, q_eq, qz0, qz1, qz2, qz3, if_pos, if_neg, reduceIte, c_crowd CN])
  exact ⟨M1, e, g, h⟩
theorem c_ln2 (W : ma_W s T V) (C : ma_C s T V M) (hr : ∀ p : Nat, (p : Int) < T 3 0 → M 146 p = iI (ma_cn s T V p)) : l_X11_line_55 M gs_FU (iI 0) (iI 0) (iI 0) = some (iI (ma_li (ma_cn s T V) (T 3 0).toNat (T 3 0).toNat).1, iI ((ma_li (ma_cn s T V) (T 3 0).toNat (T 3 0).toNat).2 : Nat), iI ((T 3 0).toNat : Nat)) := by
  have f1 := W.2.1.1
  have e0 := c_crowd C
  obtain ⟨r, e, hr'⟩ := ma_up0 (fun f i (q : Int32 × Int32) => l_X11_line_55 M f q.1 q.2 i) (T 3 0).toNat
    (fun i q => q = (iI (ma_li (ma_cn s T V) (T 3 0).toNat i).1, iI ((ma_li (ma_cn s T V) (T 3 0).toNat i).2 : Nat)))
    (fun r => r = (iI (ma_li (ma_cn s T V) (T 3 0).toNat (T 3 0).toNat).1, iI ((ma_li (ma_cn s T V) (T 3 0).toNat (T 3 0).toNat).2 : Nat), iI ((T 3 0).toNat : Nat))) (iI 0, iI 0) (by omega) rfl
    (by
      intro f i q hi hq
      subst hq
      left
      have h1 := (ma_li_b (ma_cn s T V) (n := (T 3 0).toNat) (by omega) (k := i) (by omega)).2
      have h2 := ma_li_f (ma_cn s T V) (n := (T 3 0).toNat) (by omega) (k := i) hi
      have h3 := ma_fl_b (ma_cn s T V) (ma_li (ma_cn s T V) (T 3 0).toNat i).2 (T 3 0).toNat
      obtain ⟨b, hb⟩ : ∃ b : Nat, ma_fl (ma_cn s T V) (ma_li (ma_cn s T V) (T 3 0).toNat i).2 (T 3 0).toNat = b := ⟨_, (Int.toNat_of_nonneg h2).symm⟩
      have e1 := c_fl W C hr h1
      rw [hb] at e1
      have e2 : f_X11_firstInLine M (iI ((ma_li (ma_cn s T V) (T 3 0).toNat i).2 : Nat)) = some (iI b) := by
        unfold f_X11_firstInLine
        simp (disch := omega) only [qn0, qn1, qn2, qn3, qn4, qn5, qn6, qn7, qn8, qn9, qn10, qn11, qn12, qn13, qn14, qn15, qn16, qn17, qn18, qn24, qn30, qn31, qn32, qn33, qn36, qn38, qn40, qn41, qn42, qn43, qn45, qn47, qn48, qn49, qn50, qn51, qn52, qn53, qn57, qn58, qn59, qn60, qn61, qn62, qn63, qn91, qn93, qn97, qn99, qn100, qn103, qn104, qn112, qn113, qn115, qn116, qn118, qn119, qn121, qn124, qn173, qn177, qn240, qn255, qn295, qn352, qn353, qn533, qn999, qn1000, qn1023, qn6561, qn10000, qn20787, qn1000000, qn252645135, qn858993459, qn1000000000, qn1431655765, q_s1, q_s2, q_s3, q_s4, q_s5, iI_add, iI_sub, iI_mul, iI_neg, q_lt, q_le, q_eq, qz0, qz1, qz2, qz3, if_pos, if_neg, reduceIte, e1]
      refine ⟨_, ?_, rfl⟩
      simp only [l_X11_line_55, ma_li]
      rw [hb, Int.toNat_natCast, Int.mul_comm 10]
      simp (disch := omega) only [qn0, qn1, qn2, qn3, qn4, qn5, qn6, qn7, qn8, qn9, qn10, qn11, qn12, qn13, qn14, qn15, qn16, qn17, qn18, qn24, qn30, qn31, qn32, qn33, qn36, qn38, qn40, qn41, qn42, qn43, qn45, qn47, qn48, qn49, qn50, qn51, qn52, qn53, qn57, qn58, qn59, qn60, qn61, qn62, qn63, qn91, qn93, qn97, qn99, qn100, qn103, qn104, qn112, qn113, qn115, qn116, qn118, qn119, qn121, qn124, qn173, qn177, qn240, qn255, qn295, qn352, qn353, qn533, qn999, qn1000, qn1023, qn6561, qn10000, qn20787, qn1000000, qn252645135, qn858993459, qn1000000000, qn1431655765, q_s1, q_s2, q_s3, q_s4, q_s5, iI_add, iI_sub, iI_mul, iI_neg, q_lt, q_le, q_eq, qz0, qz1, qz2, qz3, if_pos, if_neg, reduceIte, e0, e2, b_sh, b_or])
    (by
      intro f q hq
      subst hq
      refine ⟨_, ?_, rfl⟩
      simp only [l_X11_line_55]
      simp (disch := omega) only [qn0, qn1, qn2, qn3, qn4, qn5, qn6, qn7, qn8, qn9, qn10, qn11, qn12, qn13, qn14, qn15, qn16, qn17, qn18, qn24, qn30, qn31, qn32, qn33, qn36, qn38, qn40, qn41, qn42, qn43, qn45, qn47, qn48, qn49, qn50, qn51, qn52, qn53, qn57, qn58, qn59, qn60, qn61, qn62, qn63, qn91, qn93, qn97, qn99, qn100, qn103, qn104, qn112, qn113, qn115, qn116, qn118, qn119, qn121, qn124, qn173, qn177, qn240, qn255, qn295, qn352, qn353, qn533, qn999, qn1000, qn1023, qn6561, qn10000, qn20787, qn1000000, qn252645135, qn858993459, qn1000000000, qn1431655765, q_s1, q_s2, q_s3, q_s4, q_s5, iI_add, iI_sub, iI_mul, iI_neg, q_lt, q_le, q_eq, qz0, qz1, qz2, qz3, if_pos, if_neg, reduceIte, e0])
  subst hr'
  exact e
theorem m_has {z i : Nat} (hz : z < 2147483648) (hi : i < 31) : f_X12_has (iI z) (iI i) = some (iI (if z.testBit i then 1 else 0)) := by
  unfold f_X12_has
  rw [qn31, qn1, b_tb hz hi]
  by_cases c : z.testBit i = true
  · rw [if_pos c]; rfl
  · rw [if_neg c]; rfl
theorem m_fl (W : ma_W s T V) (D : ma_M s T V M) {z : Nat} (hz : z < 256) (x y : Int32) : ∃ M1, l_X12_line_34 x (iI z) y gs_FU (iI (-1)) (iI 0) M = some (iI (ma_fl (ma_cn s T V) z (T 3 0).toNat), iI ((T 3 0).toNat : Nat), M1) ∧ iv_ag M M1 := by
  have w := W.2.1
  obtain ⟨f1, f2, f3, f4, f5, f6, f7, f8, -⟩ := W.2.1
  obtain ⟨r, e, M1, rfl, g⟩ := ma_up0 (fun f i (q : Int32 × gs_M) => l_X12_line_34 x (iI z) y f q.1 i q.2) (T 3 0).toNat
    (fun i q => q.1 = iI (ma_fl (ma_cn s T V) z i) ∧ iv_ag M q.2)
    (fun r => ∃ M1, r = (iI (ma_fl (ma_cn s T V) z (T 3 0).toNat), iI ((T 3 0).toNat : Nat), M1) ∧ iv_ag M M1) (iI (-1), M) (by omega) ⟨rfl, iv_ag.rf⟩
    (by
      rintro f i ⟨q, N⟩ hi ⟨hq, hM⟩
      simp only at hq hM
      subst hq
      left
      have DN := D.ag w hM
      have e0 := DN.fo
      have b := ma_fl_b (ma_cn s T V) z i
      have e1 := m_has (z := z) (i := i) (by omega) (by omega)
      have b1 : -540 ≤ ma_cn s T V i ∧ ma_cn s T V i ≤ 540 := ma_cs_b W.1 T V _ i
      have b2 : -540 ≤ ma_cn s T V (ma_fl (ma_cn s T V) z i).toNat ∧ ma_cn s T V (ma_fl (ma_cn s T V) z i).toNat ≤ 540 := ma_cs_b W.1 T V _ _
      obtain ⟨N1, e2, g1⟩ := m_case W DN (p := i) (by omega) f7
      have la := DN.la
      have la1 := (DN.ag w g1).la
      have e3 : f_X12_caseOf N (iI i) = some (iI (ma_cn s T V i), N1) := by
        unfold f_X12_caseOf
        simp (disch := omega) only [qn0, qn1, qn2, qn3, qn4, qn5, qn6, qn7, qn8, qn9, qn10, qn11, qn12, qn13, qn14, qn15, qn16, qn17, qn18, qn24, qn30, qn31, qn32, qn33, qn36, qn38, qn40, qn41, qn42, qn43, qn45, qn47, qn48, qn49, qn50, qn51, qn52, qn53, qn57, qn58, qn59, qn60, qn61, qn62, qn63, qn91, qn93, qn97, qn99, qn100, qn103, qn104, qn112, qn113, qn115, qn116, qn118, qn119, qn121, qn124, qn173, qn177, qn240, qn255, qn295, qn352, qn353, qn533, qn999, qn1000, qn1023, qn6561, qn10000, qn20787, qn1000000, qn252645135, qn858993459, qn1000000000, qn1431655765, q_s1, q_s2, q_s3, q_s4, q_s5, iI_add, iI_sub, iI_mul, iI_neg, q_lt, q_le, q_eq, qz0, qz1, qz2, qz3, if_pos, if_neg, reduceIte, la, e2]
        rfl
      by_cases c1 : z.testBit i = true
      · rw [if_pos c1] at e1
        refine ⟨(iI (ma_fl (ma_cn s T V) z (i + 1)), N), ?_, rfl, hM⟩
        simp only [l_X12_line_34, ma_fl]
        simp (disch := omega) only [qn0, qn1, qn2, qn3, qn4, qn5, qn6, qn7, qn8, qn9, qn10, qn11, qn12, qn13, qn14, qn15, qn16, qn17, qn18, qn24, qn30, qn31, qn32, qn33, qn36, qn38, qn40, qn41, qn42, qn43, qn45, qn47, qn48, qn49, qn50, qn51, qn52, qn53, qn57, qn58, qn59, qn60, qn61, qn62, qn63, qn91, qn93, qn97, qn99, qn100, qn103, qn104, qn112, qn113, qn115, qn116, qn118, qn119, qn121, qn124, qn173, qn177, qn240, qn255, qn295, qn352, qn353, qn533, qn999, qn1000, qn1023, qn6561, qn10000, qn20787, qn1000000, qn252645135, qn858993459, qn1000000000, qn1431655765, q_s1, q_s2, q_s3, q_s4, q_s5, iI_add, iI_sub, iI_mul, iI_neg, q_lt, q_le, q_eq, qz0, qz1, qz2, qz3, if_pos, if_neg, reduceIte, e0, e1, c1]
      · rw [if_neg c1] at e1
        by_cases c2 : ma_fl (ma_cn s T V) z i = -1
        · refine ⟨(iI (ma_fl (ma_cn s T V) z (i + 1)), N), ?_, rfl, hM⟩
          simp only [l_X12_line_34, ma_fl]
          simp (disch := omega) only [qn0, qn1, qn2, qn3, qn4, qn5, qn6, qn7, qn8, qn9, qn10, qn11, qn12, qn13, qn14, qn15, qn16, qn17, qn18, qn24, qn30, qn31, qn32, qn33, qn36, qn38, qn40, qn41, qn42, qn43, qn45, qn47, qn48, qn49, qn50, qn51, qn52, qn53, qn57, qn58, qn59, qn60, qn61, qn62, qn63, qn91, qn93, qn97, qn99, qn100, qn103, qn104, qn112, qn113, qn115, qn116, qn118, qn119, qn121, qn124, qn173, qn177, qn240, qn255, qn295, qn352, qn353, qn533, qn999, qn1000, qn1023, qn6561, qn10000, qn20787, qn1000000, qn252645135, qn858993459, qn1000000000, qn1431655765, q_s1, q_s2, q_s3, q_s4, q_s5, iI_add, iI_sub, iI_mul, iI_neg, q_lt, q_le, q_eq, qz0, qz1, qz2, qz3, if_pos, if_neg, reduceIte, e0, e1, c1, Bool.false_eq_true, c2]
        · obtain ⟨N2, e4, g2⟩ := m_case W (DN.ag w g1) (p := (ma_fl (ma_cn s T V) z i).toNat) (by omega) f7
          have e5 : f_X12_caseOf N1 (iI (ma_fl (ma_cn s T V) z i)) = some (iI (ma_cn s T V (ma_fl (ma_cn s T V) z i).toNat), N2) := by
            have : iI (ma_fl (ma_cn s T V) z i) = iI ((ma_fl (ma_cn s T V) z i).toNat : Nat) := by congr 1; omega
            rw [this]
            unfold f_X12_caseOf
            simp (disch := omega) only [qn0, qn1, qn2, qn3, qn4, qn5, qn6, qn7, qn8, qn9, qn10, qn11, qn12, qn13, qn14, qn15, qn16, qn17, qn18, qn24, qn30, qn31, qn32, qn33, qn36, qn38, qn40, qn41, qn42, qn43, qn45, qn47, qn48, qn49, qn50, qn51, qn52, qn53, qn57, qn58, qn59, qn60, qn61, qn62, qn63, qn91, qn93, qn97, qn99, qn100, qn103, qn104, qn112, qn113, qn115, qn116, qn118, qn119, qn121, qn124, qn173, qn177, qn240, qn255, qn295, qn352, qn353, qn533, qn999, qn1000, qn1023, qn6561, qn10000, qn20787, qn1000000, qn252645135, qn858993459, qn1000000000, qn1431655765, q_s1, q_s2, q_s3, q_s4, q_s5, iI_add, iI_sub, iI_mul, iI_neg, q_lt, q_le, q_eq, qz0, qz1, qz2, qz3, if_pos, if_neg, reduceIte, la1, e4]
            rfl
          refine ⟨(iI (ma_fl (ma_cn s T V) z (i + 1)), N2), ?_, rfl, hM.tr (g1.tr g2)⟩
          simp only [l_X12_line_34, ma_fl]
          rcases (by omega : ma_cn s T V i ≤ ma_cn s T V (ma_fl (ma_cn s T V) z i).toNat ∨ ma_cn s T V (ma_fl (ma_cn s T V) z i).toNat < ma_cn s T V i) with c3 | c3 <;> simp (disch := omega) only [qn0, qn1, qn2, qn3, qn4, qn5, qn6, qn7, qn8, qn9, qn10, qn11, qn12, qn13, qn14, qn15, qn16, qn17, qn18, qn24, qn30, qn31, qn32, qn33, qn36, qn38, qn40, qn41, qn42, qn43, qn45, qn47, qn48, qn49, qn50, qn51, qn52, qn53, qn57, qn58, qn59, qn60, qn61, qn62, qn63, qn91, qn93, qn97, qn99, qn100, qn103, qn104, qn112, qn113, qn115, qn116, qn118, qn119, qn121, qn124, qn173, qn177, qn240, qn255, qn295, qn352, qn353, qn533, qn999, qn1000, qn1023, qn6561, qn10000, qn20787, qn1000000, qn252645135, qn858993459, qn1000000000, qn1431655765, q_s1, q_s2, q_s3, q_s4, q_s5, iI_add, iI_sub, iI_mul, iI_neg, q_lt, q_le, q_eq, qz0, qz1, qz2, qz3, if_pos, if_neg, reduceIte, e0, e1, c1, Bool.false_eq_true, c2, e3, e5])
    (by
      rintro f ⟨q, N⟩ ⟨hq, hM⟩
      simp only at hq hM
      subst hq
      have DN := D.ag w hM
      refine ⟨_, ?_, N, rfl, hM⟩
      simp only [l_X12_line_34]
      simp (disch := omega) only [qn0, qn1, qn2, qn3, qn4, qn5, qn6, qn7, qn8, qn9, qn10, qn11, qn12, qn13, qn14, qn15, qn16, qn17, qn18, qn24, qn30, qn31, qn32, qn33, qn36, qn38, qn40, qn41, qn42, qn43, qn45, qn47, qn48, qn49, qn50, qn51, qn52, qn53, qn57, qn58, qn59, qn60, qn61, qn62, qn63, qn91, qn93, qn97, qn99, qn100, qn103, qn104, qn112, qn113, qn115, qn116, qn118, qn119, qn121, qn124, qn173, qn177, qn240, qn255, qn295, qn352, qn353, qn533, qn999, qn1000, qn1023, qn6561, qn10000, qn20787, qn1000000, qn252645135, qn858993459, qn1000000000, qn1431655765, q_s1, q_s2, q_s3, q_s4, q_s5, iI_add, iI_sub, iI_mul, iI_neg, q_lt, q_le, q_eq, qz0, qz1, qz2, qz3, if_pos, if_neg, reduceIte, DN.fo])
  exact ⟨M1, e, g⟩
theorem m_ln2 (W : ma_W s T V) (D : ma_M s T V M) : ∃ M1, l_X12_line_20 gs_FU (iI 0) (iI 0) (iI 0) M = some (iI (ma_li (ma_cn s T V) (T 3 0).toNat (T 3 0).toNat).1, iI ((ma_li (ma_cn s T V) (T 3 0).toNat (T 3 0).toNat).2 : Nat), iI ((T 3 0).toNat : Nat), M1) ∧ iv_ag M M1 := by
  have w := W.2.1
  have f1 := W.2.1.1
  obtain ⟨r, e, M1, rfl, g⟩ := ma_up0 (fun f i (q : Int32 × Int32 × gs_M) => l_X12_line_20 f q.1 q.2.1 i q.2.2) (T 3 0).toNat
    (fun i q => q.1 = iI (ma_li (ma_cn s T V) (T 3 0).toNat i).1 ∧ q.2.1 = iI ((ma_li (ma_cn s T V) (T 3 0).toNat i).2 : Nat) ∧ iv_ag M q.2.2)
    (fun r => ∃ M1, r = (iI (ma_li (ma_cn s T V) (T 3 0).toNat (T 3 0).toNat).1, iI ((ma_li (ma_cn s T V) (T 3 0).toNat (T 3 0).toNat).2 : Nat), iI ((T 3 0).toNat : Nat), M1) ∧ iv_ag M M1) (iI 0, iI 0, M) (by omega) ⟨rfl, rfl, iv_ag.rf⟩
    (by
      rintro f i ⟨q, q2, N⟩ hi ⟨hq, hq2, hM⟩
      simp only at hq hq2 hM
      subst hq hq2
      left
      have DN := D.ag w hM
      have h1 := (ma_li_b (ma_cn s T V) (n := (T 3 0).toNat) (by omega) (k := i) (by omega)).2
      have h2 := ma_li_f (ma_cn s T V) (n := (T 3 0).toNat) (by omega) (k := i) hi
      have h3 := ma_fl_b (ma_cn s T V) (ma_li (ma_cn s T V) (T 3 0).toNat i).2 (T 3 0).toNat
      obtain ⟨b, hb⟩ : ∃ b : Nat, ma_fl (ma_cn s T V) (ma_li (ma_cn s T V) (T 3 0).toNat i).2 (T 3 0).toNat = b := ⟨_, (Int.toNat_of_nonneg h2).symm⟩
      obtain ⟨N1, e1, g1⟩ := m_fl W DN h1 (iI (ma_li (ma_cn s T V) (T 3 0).toNat i).1) (iI i)
      rw [hb] at e1
      refine ⟨(iI (ma_li (ma_cn s T V) (T 3 0).toNat (i + 1)).1, iI ((ma_li (ma_cn s T V) (T 3 0).toNat (i + 1)).2 : Nat), N1), ?_, rfl, rfl, hM.tr g1⟩
      simp only [l_X12_line_20, ma_li]
      rw [hb, Int.toNat_natCast]
      simp (disch := omega) only [qn0, qn1, qn2, qn3, qn4, qn5, qn6, qn7, qn8, qn9, qn10, qn11, qn12, qn13, qn14, qn15, qn16, qn17, qn18, qn24, qn30, qn31, qn32, qn33, qn36, qn38, qn40, qn41, qn42, qn43, qn45, qn47, qn48, qn49, qn50, qn51, qn52, qn53, qn57, qn58, qn59, qn60, qn61, qn62, qn63, qn91, qn93, qn97, qn99, qn100, qn103, qn104, qn112, qn113, qn115, qn116, qn118, qn119, qn121, qn124, qn173, qn177, qn240, qn255, qn295, qn352, qn353, qn533, qn999, qn1000, qn1023, qn6561, qn10000, qn20787, qn1000000, qn252645135, qn858993459, qn1000000000, qn1431655765, q_s1, q_s2, q_s3, q_s4, q_s5, iI_add, iI_sub, iI_mul, iI_neg, q_lt, q_le, q_eq, qz0, qz1, qz2, qz3, if_pos, if_neg, reduceIte, DN.fo, e1, b_sh, b_or])
    (by
      rintro f ⟨q, q2, N⟩ ⟨hq, hq2, hM⟩
      simp only at hq hq2 hM
      subst hq hq2
      have DN := D.ag w hM
      refine ⟨_, ?_, N, rfl, hM⟩
      simp only [l_X12_line_20]
      simp (disch := omega) only [qn0, qn1, qn2, qn3, qn4, qn5, qn6, qn7, qn8, qn9, qn10, qn11, qn12, qn13, qn14, qn15, qn16, qn17, qn18, qn24, qn30, qn31, qn32, qn33, qn36, qn38, qn40, qn41, qn42, qn43, qn45, qn47, qn48, qn49, qn50, qn51, qn52, qn53, qn57, qn58, qn59, qn60, qn61, qn62, qn63, qn91, qn93, qn97, qn99, qn100, qn103, qn104, qn112, qn113, qn115, qn116, qn118, qn119, qn121, qn124, qn173, qn177, qn240, qn255, qn295, qn352, qn353, qn533, qn999, qn1000, qn1023, qn6561, qn10000, qn20787, qn1000000, qn252645135, qn858993459, qn1000000000, qn1431655765, q_s1, q_s2, q_s3, q_s4, q_s5, iI_add, iI_sub, iI_mul, iI_neg, q_lt, q_le, q_eq, qz0, qz1, qz2, qz3, if_pos, if_neg, reduceIte, DN.fo])
  exact ⟨M1, e, g⟩
/-- which pairs rest -/
def ma_re (z : Int) : Int := if z = -1 then 3 else if z = 0 then 1 else if z = 1 then 10 else if z = 2 then 11 else -1
theorem ma_sh1 (v : Int) : ma_sh v 1 0 = ma_sh v 0 0 + 1 := by
  unfold ma_sh
  simp
  omega
theorem ma_sh2 (v : Int) : ma_sh v 1 1 = ma_sh v 0 1 := by
  unfold ma_sh
  simp
theorem q_dh : gs_dv (iI 0) (iI 2) = some (iI 0) ∧ gs_dv (iI 1) (iI 2) = some (iI 0) ∧ gs_dv (iI 2) (iI 2) = some (iI 1) ∧ gs_dv (iI 3) (iI 2) = some (iI 1) ∧ gs_rm9 (iI 0) (iI 2) = some (iI 0) ∧ gs_rm9 (iI 1) (iI 2) = some (iI 1) ∧ gs_rm9 (iI 2) (iI 2) = some (iI 0) ∧ gs_rm9 (iI 3) (iI 2) = some (iI 1) := by decide
theorem c_re {v u : Int} (hv : -540 ≤ v ∧ v ≤ 540) (hu : -540 ≤ u ∧ u ≤ 540) (x : Int32) {z : Int} (hz : -1 ≤ z ∧ z < 2147483648) : l_X11_rests_61 M x (iI z) (iI v) (iI u) gs_FU (iI 0) (iI 0) = some (iI (ma_re z), M) := by
  obtain ⟨d0, d1, d2, d3, d4, d5, d6, d7⟩ := q_dh
  have k1 := ma_sh1 v
  have k2 := ma_sh2 v
  have k3 := ma_sh1 u
  have k4 := ma_sh2 u
  have a1 := ma_sh_b hv 0 0
  have a2 := ma_sh_b hv 0 1
  have a3 := ma_sh_b hu 0 0
  have a4 := ma_sh_b hu 0 1
  have E : ∀ y : Int, -540 ≤ y ∧ y ≤ 540 → f_X11_share (iI y) (iI 0) (iI 0) = some (iI (ma_sh y 0 0)) ∧ f_X11_share (iI y) (iI 0) (iI 1) = some (iI (ma_sh y 0 1)) ∧ f_X11_share (iI y) (iI 1) (iI 0) = some (iI (ma_sh y 0 0 + 1)) ∧ f_X11_share (iI y) (iI 1) (iI 1) = some (iI (ma_sh y 0 1)) := fun y hy => by
    rw [← ma_sh1, ← ma_sh2]
    exact ⟨c_sh hy (by simp) (by simp), by rw [ma_sh2]; exact c_sh hy (by simp) (by simp), c_sh hy (by simp) (by simp), c_sh hy (by simp) (by simp)⟩
  obtain ⟨E1, E2, E3, E4⟩ := E v hv
  obtain ⟨E5, E6, E7, E8⟩ := E u hu
  obtain ⟨r, e, hr⟩ := ma_up0 (fun f i (q : Int32) => l_X11_rests_61 M x (iI z) (iI v) (iI u) f q i) 4
    (fun i q => q = iI (((i - 1 : Nat) : Int)) ∧ (z = -1 ∨ ((i - 1 : Nat) : Int) ≤ z))
    (fun r => r = (iI (ma_re z), M)) (iI 0) (by decide) ⟨rfl, by omega⟩
    (by
      intro f i q hi ⟨hq, hc⟩
      subst hq
      simp only [l_X11_rests_61]
      rcases (by omega : i = 0 ∨ i = 1 ∨ i = 2 ∨ i = 3) with c | c | c | c
      · subst c
        left
        refine ⟨iI 0, ?_, rfl, by omega⟩
        simp (disch := omega) only [qn0, qn1, qn2, qn3, qn4, qn5, qn6, qn7, qn8, qn9, qn10, qn11, qn12, qn13, qn14, qn15, qn16, qn17, qn18, qn24, qn30, qn31, qn32, qn33, qn36, qn38, qn40, qn41, qn42, qn43, qn45, qn47, qn48, qn49, qn50, qn51, qn52, qn53, qn57, qn58, qn59, qn60, qn61, qn62, qn63, qn91, qn93, qn97, qn99, qn100, qn103, qn104, qn112, qn113, qn115, qn116, qn118, qn119, qn121, qn124, qn173, qn177, qn240, qn255, qn295, qn352, qn353, qn533, qn999, qn1000, qn1023, qn6561, qn10000, qn20787, qn1000000, qn252645135, qn858993459, qn1000000000, qn1431655765, q_s1, q_s2, q_s3, q_s4, q_s5, iI_add, iI_sub, iI_mul, iI_neg, q_lt, q_le, q_eq, qz0, qz1, qz2, qz3, if_pos, if_neg, reduceIte, Int.natCast_zero, Nat.reduceSub, Int.cast_ofNat_Int, d0, d4, Int.reduceSub, E1, E3]
      · subst c
        rcases (by omega : z = 0 ∨ z ≠ 0) with c2 | c2
        · right
          refine ⟨_, ?_, rfl⟩
          subst c2
          simp (disch := omega) only [qn0, qn1, qn2, qn3, qn4, qn5, qn6, qn7, qn8, qn9, qn10, qn11, qn12, qn13, qn14, qn15, qn16, qn17, qn18, qn24, qn30, qn31, qn32, qn33, qn36, qn38, qn40, qn41, qn42, qn43, qn45, qn47, qn48, qn49, qn50, qn51, qn52, qn53, qn57, qn58, qn59, qn60, qn61, qn62, qn63, qn91, qn93, qn97, qn99, qn100, qn103, qn104, qn112, qn113, qn115, qn116, qn118, qn119, qn121, qn124, qn173, qn177, qn240, qn255, qn295, qn352, qn353, qn533, qn999, qn1000, qn1023, qn6561, qn10000, qn20787, qn1000000, qn252645135, qn858993459, qn1000000000, qn1431655765, q_s1, q_s2, q_s3, q_s4, q_s5, iI_add, iI_sub, iI_mul, iI_neg, q_lt, q_le, q_eq, qz0, qz1, qz2, qz3, if_pos, if_neg, reduceIte, Nat.reduceSub, Int.cast_ofNat_Int, d1, d5, Int.reduceSub, E1, E2, E3, E4, E5, E6, E7, E8]
          rfl
        · left
          refine ⟨iI 1, ?_, rfl, by omega⟩
          simp (disch := omega) only [qn0, qn1, qn2, qn3, qn4, qn5, qn6, qn7, qn8, qn9, qn10, qn11, qn12, qn13, qn14, qn15, qn16, qn17, qn18, qn24, qn30, qn31, qn32, qn33, qn36, qn38, qn40, qn41, qn42, qn43, qn45, qn47, qn48, qn49, qn50, qn51, qn52, qn53, qn57, qn58, qn59, qn60, qn61, qn62, qn63, qn91, qn93, qn97, qn99, qn100, qn103, qn104, qn112, qn113, qn115, qn116, qn118, qn119, qn121, qn124, qn173, qn177, qn240, qn255, qn295, qn352, qn353, qn533, qn999, qn1000, qn1023, qn6561, qn10000, qn20787, qn1000000, qn252645135, qn858993459, qn1000000000, qn1431655765, q_s1, q_s2, q_s3, q_s4, q_s5, iI_add, iI_sub, iI_mul, iI_neg, q_lt, q_le, q_eq, qz0, qz1, qz2, qz3, if_pos, if_neg, reduceIte, Nat.reduceSub, Int.cast_ofNat_Int, d1, d5, Int.reduceSub, E1, E2, E3, E4, E5, E6, E7, E8, Int.reduceAdd]
      · subst c
        rcases (by omega : z = 1 ∨ z ≠ 1) with c2 | c2
        · right
          refine ⟨_, ?_, rfl⟩
          subst c2
          simp (disch := omega) only [qn0, qn1, qn2, qn3, qn4, qn5, qn6, qn7, qn8, qn9, qn10, qn11, qn12, qn13, qn14, qn15, qn16, qn17, qn18, qn24, qn30, qn31, qn32, qn33, qn36, qn38, qn40, qn41, qn42, qn43, qn45, qn47, qn48, qn49, qn50, qn51, qn52, qn53, qn57, qn58, qn59, qn60, qn61, qn62, qn63, qn91, qn93, qn97, qn99, qn100, qn103, qn104, qn112, qn113, qn115, qn116, qn118, qn119, qn121, qn124, qn173, qn177, qn240, qn255, qn295, qn352, qn353, qn533, qn999, qn1000, qn1023, qn6561, qn10000, qn20787, qn1000000, qn252645135, qn858993459, qn1000000000, qn1431655765, q_s1, q_s2, q_s3, q_s4, q_s5, iI_add, iI_sub, iI_mul, iI_neg, q_lt, q_le, q_eq, qz0, qz1, qz2, qz3, if_pos, if_neg, reduceIte, Nat.reduceSub, Int.cast_ofNat_Int, d2, d6, Int.reduceSub, E1, E2, E3, E4, E5, E6, E7, E8]
          rfl
        · left
          refine ⟨iI 2, ?_, rfl, by omega⟩
          simp (disch := omega) only [qn0, qn1, qn2, qn3, qn4, qn5, qn6, qn7, qn8, qn9, qn10, qn11, qn12, qn13, qn14, qn15, qn16, qn17, qn18, qn24, qn30, qn31, qn32, qn33, qn36, qn38, qn40, qn41, qn42, qn43, qn45, qn47, qn48, qn49, qn50, qn51, qn52, qn53, qn57, qn58, qn59, qn60, qn61, qn62, qn63, qn91, qn93, qn97, qn99, qn100, qn103, qn104, qn112, qn113, qn115, qn116, qn118, qn119, qn121, qn124, qn173, qn177, qn240, qn255, qn295, qn352, qn353, qn533, qn999, qn1000, qn1023, qn6561, qn10000, qn20787, qn1000000, qn252645135, qn858993459, qn1000000000, qn1431655765, q_s1, q_s2, q_s3, q_s4, q_s5, iI_add, iI_sub, iI_mul, iI_neg, q_lt, q_le, q_eq, qz0, qz1, qz2, qz3, if_pos, if_neg, reduceIte, Nat.reduceSub, Int.cast_ofNat_Int, d2, d6, Int.reduceSub, E1, E2, E3, E4, E5, E6, E7, E8, Int.reduceAdd]
      · subst c
        rcases (by omega : z = 2 ∨ z ≠ 2) with c2 | c2
        · right
          refine ⟨_, ?_, rfl⟩
          subst c2
          simp (disch := omega) only [qn0, qn1, qn2, qn3, qn4, qn5, qn6, qn7, qn8, qn9, qn10, qn11, qn12, qn13, qn14, qn15, qn16, qn17, qn18, qn24, qn30, qn31, qn32, qn33, qn36, qn38, qn40, qn41, qn42, qn43, qn45, qn47, qn48, qn49, qn50, qn51, qn52, qn53, qn57, qn58, qn59, qn60, qn61, qn62, qn63, qn91, qn93, qn97, qn99, qn100, qn103, qn104, qn112, qn113, qn115, qn116, qn118, qn119, qn121, qn124, qn173, qn177, qn240, qn255, qn295, qn352, qn353, qn533, qn999, qn1000, qn1023, qn6561, qn10000, qn20787, qn1000000, qn252645135, qn858993459, qn1000000000, qn1431655765, q_s1, q_s2, q_s3, q_s4, q_s5, iI_add, iI_sub, iI_mul, iI_neg, q_lt, q_le, q_eq, qz0, qz1, qz2, qz3, if_pos, if_neg, reduceIte, Nat.reduceSub, Int.cast_ofNat_Int, d3, d7, Int.reduceSub, E1, E2, E3, E4, E5, E6, E7, E8]
          rfl
        · left
          refine ⟨iI 3, ?_, rfl, by omega⟩
          simp (disch := omega) only [qn0, qn1, qn2, qn3, qn4, qn5, qn6, qn7, qn8, qn9, qn10, qn11, qn12, qn13, qn14, qn15, qn16, qn17, qn18, qn24, qn30, qn31, qn32, qn33, qn36, qn38, qn40, qn41, qn42, qn43, qn45, qn47, qn48, qn49, qn50, qn51, qn52, qn53, qn57, qn58, qn59, qn60, qn61, qn62, qn63, qn91, qn93, qn97, qn99, qn100, qn103, qn104, qn112, qn113, qn115, qn116, qn118, qn119, qn121, qn124, qn173, qn177, qn240, qn255, qn295, qn352, qn353, qn533, qn999, qn1000, qn1023, qn6561, qn10000, qn20787, qn1000000, qn252645135, qn858993459, qn1000000000, qn1431655765, q_s1, q_s2, q_s3, q_s4, q_s5, iI_add, iI_sub, iI_mul, iI_neg, q_lt, q_le, q_eq, qz0, qz1, qz2, qz3, if_pos, if_neg, reduceIte, Nat.reduceSub, Int.cast_ofNat_Int, d3, d7, Int.reduceSub, E1, E2, E3, E4, E5, E6, E7, E8, Int.reduceAdd])
    (by
      intro f q ⟨hq, hc⟩
      subst hq
      refine ⟨_, ?_, rfl⟩
      simp only [l_X11_rests_61]
      unfold ma_re
      rcases (by omega : z = -1 ∨ 3 ≤ z) with c | c <;> simp (disch := omega) only [qn0, qn1, qn2, qn3, qn4, qn5, qn6, qn7, qn8, qn9, qn10, qn11, qn12, qn13, qn14, qn15, qn16, qn17, qn18, qn24, qn30, qn31, qn32, qn33, qn36, qn38, qn40, qn41, qn42, qn43, qn45, qn47, qn48, qn49, qn50, qn51, qn52, qn53, qn57, qn58, qn59, qn60, qn61, qn62, qn63, qn91, qn93, qn97, qn99, qn100, qn103, qn104, qn112, qn113, qn115, qn116, qn118, qn119, qn121, qn124, qn173, qn177, qn240, qn255, qn295, qn352, qn353, qn533, qn999, qn1000, qn1023, qn6561, qn10000, qn20787, qn1000000, qn252645135, qn858993459, qn1000000000, qn1431655765, q_s1, q_s2, q_s3, q_s4, q_s5, iI_add, iI_sub, iI_mul, iI_neg, q_lt, q_le, q_eq, qz0, qz1, qz2, qz3, if_pos, if_neg, reduceIte, Nat.reduceSub, Int.cast_ofNat_Int])
  subst hr
  exact e
theorem m_re (W : ma_W s T V) (D : ma_M s T V M) {p q : Nat} (hp : (p : Int) < T 3 0) (hq : (q : Int) < T 3 0) {z : Int} (hz : -1 ≤ z ∧ z < 2147483648) : ∃ M1, l_X12_rests_32 (iI p) (iI z) (iI q) gs_FU (iI 0) (iI 0) M = some (iI (ma_re z), M1) ∧ iv_ag M M1 := by
  have w := W.2.1
  obtain ⟨d0, d1, d2, d3, d4, d5, d6, d7⟩ := q_dh
  have a1 := ma_sh_b (ma_cs_b W.1 T V (T 3 2) p) 0 0
  have a2 := ma_sh_b (ma_cs_b W.1 T V (T 3 2) p) 0 1
  have a3 := ma_sh_b (ma_cs_b W.1 T V (T 3 2) q) 0 0
  have a4 := ma_sh_b (ma_cs_b W.1 T V (T 3 2) q) 0 1
  obtain ⟨r, e, M1, rfl, g⟩ := ma_up0 (fun f i (k : Int32 × gs_M) => l_X12_rests_32 (iI p) (iI z) (iI q) f k.1 i k.2) 4
    (fun i k => k.1 = iI (((i - 1 : Nat) : Int)) ∧ (z = -1 ∨ ((i - 1 : Nat) : Int) ≤ z) ∧ iv_ag M k.2)
    (fun r => ∃ M1, r = (iI (ma_re z), M1) ∧ iv_ag M M1) (iI 0, M) (by decide) ⟨rfl, by omega, iv_ag.rf⟩
    (by
      rintro f i ⟨k, N⟩ hi ⟨hk, hc, hM⟩
      simp only at hk hc hM
      subst hk
      have DN := D.ag w hM
      simp only [l_X12_rests_32]
      have two : ∀ (a b : Int), (a = 0 ∨ a = 1) → (b = 0 ∨ b = 1) → ∃ N1 N2 N3 N4, f_X12_coupleOf N (iI p) (iI (1 - a)) (iI b) = some (iI (ma_sh (ma_cs s T V (T 3 2) p) (1 - a) b), N1) ∧ f_X12_coupleOf N1 (iI p) (iI a) (iI b) = some (iI (ma_sh (ma_cs s T V (T 3 2) p) a b), N2) ∧ f_X12_coupleOf N2 (iI q) (iI (1 - b)) (iI a) = some (iI (ma_sh (ma_cs s T V (T 3 2) q) (1 - b) a), N3) ∧ f_X12_coupleOf N3 (iI q) (iI b) (iI a) = some (iI (ma_sh (ma_cs s T V (T 3 2) q) b a), N4) ∧ iv_ag M N2 ∧ iv_ag M N4 := by
        intro a b ha hb
        obtain ⟨N1, e1, g1⟩ := m_sh W DN hp (a := 1 - a) (b := b) (by omega) hb
        have D1 := DN.ag w g1
        obtain ⟨N2, e2, g2⟩ := m_sh W D1 hp (a := a) (b := b) ha hb
        have D2 := D1.ag w g2
        obtain ⟨N3, e3, g3⟩ := m_sh W D2 hq (a := 1 - b) (b := a) (by omega) ha
        have D3 := D2.ag w g3
        obtain ⟨N4, e4, g4⟩ := m_sh W D3 hq (a := b) (b := a) hb ha
        exact ⟨N1, N2, N3, N4, e1, e2, e3, e4, hM.tr (g1.tr g2), hM.tr (g1.tr (g2.tr (g3.tr g4)))⟩
      rcases (by omega : i = 0 ∨ i = 1 ∨ i = 2 ∨ i = 3) with c | c | c | c
      · subst c
        obtain ⟨N1, N2, N3, N4, e1, e2, e3, e4, g2, g4⟩ := two 0 0 (by omega) (by omega)
        simp only [Int.reduceSub, ma_sh1, ma_sh2] at e1 e2 e3 e4
        left
        refine ⟨(iI 0, N2), ?_, rfl, by omega, g2⟩
        simp (disch := omega) only [qn0, qn1, qn2, qn3, qn4, qn5, qn6, qn7, qn8, qn9, qn10, qn11, qn12, qn13, qn14, qn15, qn16, qn17, qn18, qn24, qn30, qn31, qn32, qn33, qn36, qn38, qn40, qn41, qn42, qn43, qn45, qn47, qn48, qn49, qn50, qn51, qn52, qn53, qn57, qn58, qn59, qn60, qn61, qn62, qn63, qn91, qn93, qn97, qn99, qn100, qn103, qn104, qn112, qn113, qn115, qn116, qn118, qn119, qn121, qn124, qn173, qn177, qn240, qn255, qn295, qn352, qn353, qn533, qn999, qn1000, qn1023, qn6561, qn10000, qn20787, qn1000000, qn252645135, qn858993459, qn1000000000, qn1431655765, q_s1, q_s2, q_s3, q_s4, q_s5, iI_add, iI_sub, iI_mul, iI_neg, q_lt, q_le, q_eq, qz0, qz1, qz2, qz3, if_pos, if_neg, reduceIte, Int.natCast_zero, Nat.reduceSub, Int.cast_ofNat_Int, d0, d4, Int.reduceSub, e1, e2]
      · subst c
        obtain ⟨N1, N2, N3, N4, e1, e2, e3, e4, g2, g4⟩ := two 0 1 (by omega) (by omega)
        simp only [Int.reduceSub, ma_sh1, ma_sh2] at e1 e2 e3 e4
        rcases (by omega : z = 0 ∨ z ≠ 0) with c2 | c2
        · right
          refine ⟨_, ?_, N4, rfl, g4⟩
          subst c2
          simp (disch := omega) only [qn0, qn1, qn2, qn3, qn4, qn5, qn6, qn7, qn8, qn9, qn10, qn11, qn12, qn13, qn14, qn15, qn16, qn17, qn18, qn24, qn30, qn31, qn32, qn33, qn36, qn38, qn40, qn41, qn42, qn43, qn45, qn47, qn48, qn49, qn50, qn51, qn52, qn53, qn57, qn58, qn59, qn60, qn61, qn62, qn63, qn91, qn93, qn97, qn99, qn100, qn103, qn104, qn112, qn113, qn115, qn116, qn118, qn119, qn121, qn124, qn173, qn177, qn240, qn255, qn295, qn352, qn353, qn533, qn999, qn1000, qn1023, qn6561, qn10000, qn20787, qn1000000, qn252645135, qn858993459, qn1000000000, qn1431655765, q_s1, q_s2, q_s3, q_s4, q_s5, iI_add, iI_sub, iI_mul, iI_neg, q_lt, q_le, q_eq, qz0, qz1, qz2, qz3, if_pos, if_neg, reduceIte, Nat.reduceSub, Int.cast_ofNat_Int, d1, d5, Int.reduceSub, e1, e2, e3, e4]
          rfl
        · left
          refine ⟨(iI 1, N4), ?_, rfl, by omega, g4⟩
          simp (disch := omega) only [qn0, qn1, qn2, qn3, qn4, qn5, qn6, qn7, qn8, qn9, qn10, qn11, qn12, qn13, qn14, qn15, qn16, qn17, qn18, qn24, qn30, qn31, qn32, qn33, qn36, qn38, qn40, qn41, qn42, qn43, qn45, qn47, qn48, qn49, qn50, qn51, qn52, qn53, qn57, qn58, qn59, qn60, qn61, qn62, qn63, qn91, qn93, qn97, qn99, qn100, qn103, qn104, qn112, qn113, qn115, qn116, qn118, qn119, qn121, qn124, qn173, qn177, qn240, qn255, qn295, qn352, qn353, qn533, qn999, qn1000, qn1023, qn6561, qn10000, qn20787, qn1000000, qn252645135, qn858993459, qn1000000000, qn1431655765, q_s1, q_s2, q_s3, q_s4, q_s5, iI_add, iI_sub, iI_mul, iI_neg, q_lt, q_le, q_eq, qz0, qz1, qz2, qz3, if_pos, if_neg, reduceIte, Nat.reduceSub, Int.cast_ofNat_Int, d1, d5, Int.reduceSub, e1, e2, e3, e4, Int.reduceAdd]
      · subst c
        obtain ⟨N1, N2, N3, N4, e1, e2, e3, e4, g2, g4⟩ := two 1 0 (by omega) (by omega)
        simp only [Int.reduceSub, ma_sh1, ma_sh2] at e1 e2 e3 e4
        rcases (by omega : z = 1 ∨ z ≠ 1) with c2 | c2
        · right
          refine ⟨_, ?_, N4, rfl, g4⟩
          subst c2
          simp (disch := omega) only [qn0, qn1, qn2, qn3, qn4, qn5, qn6, qn7, qn8, qn9, qn10, qn11, qn12, qn13, qn14, qn15, qn16, qn17, qn18, qn24, qn30, qn31, qn32, qn33, qn36, qn38, qn40, qn41, qn42, qn43, qn45, qn47, qn48, qn49, qn50, qn51, qn52, qn53, qn57, qn58, qn59, qn60, qn61, qn62, qn63, qn91, qn93, qn97, qn99, qn100, qn103, qn104, qn112, qn113, qn115, qn116, qn118, qn119, qn121, qn124, qn173, qn177, qn240, qn255, qn295, qn352, qn353, qn533, qn999, qn1000, qn1023, qn6561, qn10000, qn20787, qn1000000, qn252645135, qn858993459, qn1000000000, qn1431655765, q_s1, q_s2, q_s3, q_s4, q_s5, iI_add, iI_sub, iI_mul, iI_neg, q_lt, q_le, q_eq, qz0, qz1, qz2, qz3, if_pos, if_neg, reduceIte, Nat.reduceSub, Int.cast_ofNat_Int, d2, d6, Int.reduceSub, e1, e2, e3, e4]
          rfl
        · left
          refine ⟨(iI 2, N4), ?_, rfl, by omega, g4⟩
          simp (disch := omega) only [qn0, qn1, qn2, qn3, qn4, qn5, qn6, qn7, qn8, qn9, qn10, qn11, qn12, qn13, qn14, qn15, qn16, qn17, qn18, qn24, qn30, qn31, qn32, qn33, qn36, qn38, qn40, qn41, qn42, qn43, qn45, qn47, qn48, qn49, qn50, qn51, qn52, qn53, qn57, qn58, qn59, qn60, qn61, qn62, qn63, qn91, qn93, qn97, qn99, qn100, qn103, qn104, qn112, qn113, qn115, qn116, qn118, qn119, qn121, qn124, qn173, qn177, qn240, qn255, qn295, qn352, qn353, qn533, qn999, qn1000, qn1023, qn6561, qn10000, qn20787, qn1000000, qn252645135, qn858993459, qn1000000000, qn1431655765, q_s1, q_s2, q_s3, q_s4, q_s5, iI_add, iI_sub, iI_mul, iI_neg, q_lt, q_le, q_eq, qz0, qz1, qz2, qz3, if_pos, if_neg, reduceIte, Nat.reduceSub, Int.cast_ofNat_Int, d2, d6, Int.reduceSub, e1, e2, e3, e4, Int.reduceAdd]
      · subst c
        obtain ⟨N1, N2, N3, N4, e1, e2, e3, e4, g2, g4⟩ := two 1 1 (by omega) (by omega)
        simp only [Int.reduceSub, ma_sh1, ma_sh2] at e1 e2 e3 e4
        rcases (by omega : z = 2 ∨ z ≠ 2) with c2 | c2
        · right
          refine ⟨_, ?_, N4, rfl, g4⟩
          subst c2
          simp (disch := omega) only [qn0, qn1, qn2, qn3, qn4, qn5, qn6, qn7, qn8, qn9, qn10, qn11, qn12, qn13, qn14, qn15, qn16, qn17, qn18, qn24, qn30, qn31, qn32, qn33, qn36, qn38, qn40, qn41, qn42, qn43, qn45, qn47, qn48, qn49, qn50, qn51, qn52, qn53, qn57, qn58, qn59, qn60, qn61, qn62, qn63, qn91, qn93, qn97, qn99, qn100, qn103, qn104, qn112, qn113, qn115, qn116, qn118, qn119, qn121, qn124, qn173, qn177, qn240, qn255, qn295, qn352, qn353, qn533, qn999, qn1000, qn1023, qn6561, qn10000, qn20787, qn1000000, qn252645135, qn858993459, qn1000000000, qn1431655765, q_s1, q_s2, q_s3, q_s4, q_s5, iI_add, iI_sub, iI_mul, iI_neg, q_lt, q_le, q_eq, qz0, qz1, qz2, qz3, if_pos, if_neg, reduceIte, Nat.reduceSub, Int.cast_ofNat_Int, d3, d7, Int.reduceSub, e1, e2, e3, e4]
          rfl
        · left
          refine ⟨(iI 3, N4), ?_, rfl, by omega, g4⟩
          simp (disch := omega) only [qn0, qn1, qn2, qn3, qn4, qn5, qn6, qn7, qn8, qn9, qn10, qn11, qn12, qn13, qn14, qn15, qn16, qn17, qn18, qn24, qn30, qn31, qn32, qn33, qn36, qn38, qn40, qn41, qn42, qn43, qn45, qn47, qn48, qn49, qn50, qn51, qn52, qn53, qn57, qn58, qn59, qn60, qn61, qn62, qn63, qn91, qn93, qn97, qn99, qn100, qn103, qn104, qn112, qn113, qn115, qn116, qn118, qn119, qn121, qn124, qn173, qn177, qn240, qn255, qn295, qn352, qn353, qn533, qn999, qn1000, qn1023, qn6561, qn10000, qn20787, qn1000000, qn252645135, qn858993459, qn1000000000, qn1431655765, q_s1, q_s2, q_s3, q_s4, q_s5, iI_add, iI_sub, iI_mul, iI_neg, q_lt, q_le, q_eq, qz0, qz1, qz2, qz3, if_pos, if_neg, reduceIte, Nat.reduceSub, Int.cast_ofNat_Int, d3, d7, Int.reduceSub, e1, e2, e3, e4, Int.reduceAdd])
    (by
      rintro f ⟨k, N⟩ ⟨hk, hc, hM⟩
      simp only at hk hc hM
      subst hk
      refine ⟨_, ?_, N, rfl, hM⟩
      simp only [l_X12_rests_32]
      unfold ma_re
      rcases (by omega : z = -1 ∨ 3 ≤ z) with c | c <;> simp (disch := omega) only [qn0, qn1, qn2, qn3, qn4, qn5, qn6, qn7, qn8, qn9, qn10, qn11, qn12, qn13, qn14, qn15, qn16, qn17, qn18, qn24, qn30, qn31, qn32, qn33, qn36, qn38, qn40, qn41, qn42, qn43, qn45, qn47, qn48, qn49, qn50, qn51, qn52, qn53, qn57, qn58, qn59, qn60, qn61, qn62, qn63, qn91, qn93, qn97, qn99, qn100, qn103, qn104, qn112, qn113, qn115, qn116, qn118, qn119, qn121, qn124, qn173, qn177, qn240, qn255, qn295, qn352, qn353, qn533, qn999, qn1000, qn1023, qn6561, qn10000, qn20787, qn1000000, qn252645135, qn858993459, qn1000000000, qn1431655765, q_s1, q_s2, q_s3, q_s4, q_s5, iI_add, iI_sub, iI_mul, iI_neg, q_lt, q_le, q_eq, qz0, qz1, qz2, qz3, if_pos, if_neg, reduceIte, Nat.reduceSub, Int.cast_ofNat_Int])
  exact ⟨M1, e, g⟩
end Line
theorem s_needs : gl_S_needs ma_Inv := by
  intro M L hI x1 x2 x3
  have hI0 := hI
  obtain ⟨s, T, V, W, C, D⟩ := hI
  have w := W.2.1
  obtain ⟨f1, f2, f3, f4, f5, f6, f7, f8, f9, f10, f11, f12, f13, f14, -⟩ := W.2.1
  have D1 := ma_D0 D w (iI 0)
  rcases ma_isP W x1 with ⟨n1, n2⟩ | ⟨p, hp, p8, rfl⟩
  · refine ⟨iI (-1), M, gs_up M 147 0 (iI 0), ?_, ?_, hI0.ag (ma_g0 iv_ag.rf _)⟩
    · unfold f_X11_needs
      simp (disch := omega) only [qn0, qn1, qn2, qn3, qn4, qn5, qn6, qn7, qn8, qn9, qn10, qn11, qn12, qn13, qn14, qn15, qn16, qn17, qn18, qn24, qn30, qn31, qn32, qn33, qn36, qn38, qn40, qn41, qn42, qn43, qn45, qn47, qn48, qn49, qn50, qn51, qn52, qn53, qn57, qn58, qn59, qn60, qn61, qn62, qn63, qn91, qn93, qn97, qn99, qn100, qn103, qn104, qn112, qn113, qn115, qn116, qn118, qn119, qn121, qn124, qn173, qn177, qn240, qn255, qn295, qn352, qn353, qn533, qn999, qn1000, qn1023, qn6561, qn10000, qn20787, qn1000000, qn252645135, qn858993459, qn1000000000, qn1431655765, qj0, qj1, qj2, qj4, qj7, qj8, qj9, qj10, qj30, qj100, qj1000, qj1000000, qj1000000000, qj1442695040888963407, qj6364136223846793005, q_s1, q_s2, q_s3, q_s4, q_s5, iI_add, iI_sub, iI_mul, iI_neg, q_lt, q_le, q_eq, jI_add, jI_sub, jI_mul, jI_neg, jI_of, jI_to, j_le0, j_ge0, j_lt0, j_gt0, j_eq0, q_dvl, qz0, qz1, qz2, qz3, if_pos, if_neg, reduceIte, n1 M C]
    · unfold f_X12_needs
      simp (disch := omega) only [qn0, qn1, qn2, qn3, qn4, qn5, qn6, qn7, qn8, qn9, qn10, qn11, qn12, qn13, qn14, qn15, qn16, qn17, qn18, qn24, qn30, qn31, qn32, qn33, qn36, qn38, qn40, qn41, qn42, qn43, qn45, qn47, qn48, qn49, qn50, qn51, qn52, qn53, qn57, qn58, qn59, qn60, qn61, qn62, qn63, qn91, qn93, qn97, qn99, qn100, qn103, qn104, qn112, qn113, qn115, qn116, qn118, qn119, qn121, qn124, qn173, qn177, qn240, qn255, qn295, qn352, qn353, qn533, qn999, qn1000, qn1023, qn6561, qn10000, qn20787, qn1000000, qn252645135, qn858993459, qn1000000000, qn1431655765, qj0, qj1, qj2, qj4, qj7, qj8, qj9, qj10, qj30, qj100, qj1000, qj1000000, qj1000000000, qj1442695040888963407, qj6364136223846793005, q_s1, q_s2, q_s3, q_s4, q_s5, iI_add, iI_sub, iI_mul, iI_neg, q_lt, q_le, q_eq, jI_add, jI_sub, jI_mul, jI_neg, jI_of, jI_to, j_le0, j_ge0, j_lt0, j_gt0, j_eq0, q_dvl, qz0, qz1, qz2, qz3, if_pos, if_neg, reduceIte, n2 _ D1]
  rcases ma_isH W x2 with ⟨n1, n2⟩ | ⟨h, hh, h9, rfl⟩
  · refine ⟨iI (-1), M, gs_up M 147 0 (iI 0), ?_, ?_, hI0.ag (ma_g0 iv_ag.rf _)⟩
    · unfold f_X11_needs
      simp (disch := omega) only [qn0, qn1, qn2, qn3, qn4, qn5, qn6, qn7, qn8, qn9, qn10, qn11, qn12, qn13, qn14, qn15, qn16, qn17, qn18, qn24, qn30, qn31, qn32, qn33, qn36, qn38, qn40, qn41, qn42, qn43, qn45, qn47, qn48, qn49, qn50, qn51, qn52, qn53, qn57, qn58, qn59, qn60, qn61, qn62, qn63, qn91, qn93, qn97, qn99, qn100, qn103, qn104, qn112, qn113, qn115, qn116, qn118, qn119, qn121, qn124, qn173, qn177, qn240, qn255, qn295, qn352, qn353, qn533, qn999, qn1000, qn1023, qn6561, qn10000, qn20787, qn1000000, qn252645135, qn858993459, qn1000000000, qn1431655765, qj0, qj1, qj2, qj4, qj7, qj8, qj9, qj10, qj30, qj100, qj1000, qj1000000, qj1000000000, qj1442695040888963407, qj6364136223846793005, q_s1, q_s2, q_s3, q_s4, q_s5, iI_add, iI_sub, iI_mul, iI_neg, q_lt, q_le, q_eq, jI_add, jI_sub, jI_mul, jI_neg, jI_of, jI_to, j_le0, j_ge0, j_lt0, j_gt0, j_eq0, q_dvl, qz0, qz1, qz2, qz3, if_pos, if_neg, reduceIte, c_isP w C hp, n1 M C]
    · unfold f_X12_needs
      simp (disch := omega) only [qn0, qn1, qn2, qn3, qn4, qn5, qn6, qn7, qn8, qn9, qn10, qn11, qn12, qn13, qn14, qn15, qn16, qn17, qn18, qn24, qn30, qn31, qn32, qn33, qn36, qn38, qn40, qn41, qn42, qn43, qn45, qn47, qn48, qn49, qn50, qn51, qn52, qn53, qn57, qn58, qn59, qn60, qn61, qn62, qn63, qn91, qn93, qn97, qn99, qn100, qn103, qn104, qn112, qn113, qn115, qn116, qn118, qn119, qn121, qn124, qn173, qn177, qn240, qn255, qn295, qn352, qn353, qn533, qn999, qn1000, qn1023, qn6561, qn10000, qn20787, qn1000000, qn252645135, qn858993459, qn1000000000, qn1431655765, qj0, qj1, qj2, qj4, qj7, qj8, qj9, qj10, qj30, qj100, qj1000, qj1000000, qj1000000000, qj1442695040888963407, qj6364136223846793005, q_s1, q_s2, q_s3, q_s4, q_s5, iI_add, iI_sub, iI_mul, iI_neg, q_lt, q_le, q_eq, jI_add, jI_sub, jI_mul, jI_neg, jI_of, jI_to, j_le0, j_ge0, j_lt0, j_gt0, j_eq0, q_dvl, qz0, qz1, qz2, qz3, if_pos, if_neg, reduceIte, m_isP w D1 hp, n2 _ D1]
  obtain ⟨z, z1, z2, rfl⟩ := q_any x3
  rcases (by omega : z < 0 ∨ 10 < z ∨ (0 ≤ z ∧ z ≤ 10)) with d | d | d
  · refine ⟨iI (-1), M, gs_up M 147 0 (iI 0), ?_, ?_, hI0.ag (ma_g0 iv_ag.rf _)⟩
    · unfold f_X11_needs
      simp (disch := omega) only [qn0, qn1, qn2, qn3, qn4, qn5, qn6, qn7, qn8, qn9, qn10, qn11, qn12, qn13, qn14, qn15, qn16, qn17, qn18, qn24, qn30, qn31, qn32, qn33, qn36, qn38, qn40, qn41, qn42, qn43, qn45, qn47, qn48, qn49, qn50, qn51, qn52, qn53, qn57, qn58, qn59, qn60, qn61, qn62, qn63, qn91, qn93, qn97, qn99, qn100, qn103, qn104, qn112, qn113, qn115, qn116, qn118, qn119, qn121, qn124, qn173, qn177, qn240, qn255, qn295, qn352, qn353, qn533, qn999, qn1000, qn1023, qn6561, qn10000, qn20787, qn1000000, qn252645135, qn858993459, qn1000000000, qn1431655765, qj0, qj1, qj2, qj4, qj7, qj8, qj9, qj10, qj30, qj100, qj1000, qj1000000, qj1000000000, qj1442695040888963407, qj6364136223846793005, q_s1, q_s2, q_s3, q_s4, q_s5, iI_add, iI_sub, iI_mul, iI_neg, q_lt, q_le, q_eq, jI_add, jI_sub, jI_mul, jI_neg, jI_of, jI_to, j_le0, j_ge0, j_lt0, j_gt0, j_eq0, q_dvl, qz0, qz1, qz2, qz3, if_pos, if_neg, reduceIte, c_isP w C hp, c_isH w C hh]
    · unfold f_X12_needs
      simp (disch := omega) only [qn0, qn1, qn2, qn3, qn4, qn5, qn6, qn7, qn8, qn9, qn10, qn11, qn12, qn13, qn14, qn15, qn16, qn17, qn18, qn24, qn30, qn31, qn32, qn33, qn36, qn38, qn40, qn41, qn42, qn43, qn45, qn47, qn48, qn49, qn50, qn51, qn52, qn53, qn57, qn58, qn59, qn60, qn61, qn62, qn63, qn91, qn93, qn97, qn99, qn100, qn103, qn104, qn112, qn113, qn115, qn116, qn118, qn119, qn121, qn124, qn173, qn177, qn240, qn255, qn295, qn352, qn353, qn533, qn999, qn1000, qn1023, qn6561, qn10000, qn20787, qn1000000, qn252645135, qn858993459, qn1000000000, qn1431655765, qj0, qj1, qj2, qj4, qj7, qj8, qj9, qj10, qj30, qj100, qj1000, qj1000000, qj1000000000, qj1442695040888963407, qj6364136223846793005, q_s1, q_s2, q_s3, q_s4, q_s5, iI_add, iI_sub, iI_mul, iI_neg, q_lt, q_le, q_eq, jI_add, jI_sub, jI_mul, jI_neg, jI_of, jI_to, j_le0, j_ge0, j_lt0, j_gt0, j_eq0, q_dvl, qz0, qz1, qz2, qz3, if_pos, if_neg, reduceIte, m_isP w D1 hp, m_isH w D1 hh, m_isOut]
  · refine ⟨iI (-1), M, gs_up M 147 0 (iI 0), ?_, ?_, hI0.ag (ma_g0 iv_ag.rf _)⟩
    · unfold f_X11_needs
      simp (disch := omega) only [qn0, qn1, qn2, qn3, qn4, qn5, qn6, qn7, qn8, qn9, qn10, qn11, qn12, qn13, qn14, qn15, qn16, qn17, qn18, qn24, qn30, qn31, qn32, qn33, qn36, qn38, qn40, qn41, qn42, qn43, qn45, qn47, qn48, qn49, qn50, qn51, qn52, qn53, qn57, qn58, qn59, qn60, qn61, qn62, qn63, qn91, qn93, qn97, qn99, qn100, qn103, qn104, qn112, qn113, qn115, qn116, qn118, qn119, qn121, qn124, qn173, qn177, qn240, qn255, qn295, qn352, qn353, qn533, qn999, qn1000, qn1023, qn6561, qn10000, qn20787, qn1000000, qn252645135, qn858993459, qn1000000000, qn1431655765, qj0, qj1, qj2, qj4, qj7, qj8, qj9, qj10, qj30, qj100, qj1000, qj1000000, qj1000000000, qj1442695040888963407, qj6364136223846793005, q_s1, q_s2, q_s3, q_s4, q_s5, iI_add, iI_sub, iI_mul, iI_neg, q_lt, q_le, q_eq, jI_add, jI_sub, jI_mul, jI_neg, jI_of, jI_to, j_le0, j_ge0, j_lt0, j_gt0, j_eq0, q_dvl, qz0, qz1, qz2, qz3, if_pos, if_neg, reduceIte, c_isP w C hp, c_isH w C hh]
    · unfold f_X12_needs
      simp (disch := omega) only [qn0, qn1, qn2, qn3, qn4, qn5, qn6, qn7, qn8, qn9, qn10, qn11, qn12, qn13, qn14, qn15, qn16, qn17, qn18, qn24, qn30, qn31, qn32, qn33, qn36, qn38, qn40, qn41, qn42, qn43, qn45, qn47, qn48, qn49, qn50, qn51, qn52, qn53, qn57, qn58, qn59, qn60, qn61, qn62, qn63, qn91, qn93, qn97, qn99, qn100, qn103, qn104, qn112, qn113, qn115, qn116, qn118, qn119, qn121, qn124, qn173, qn177, qn240, qn255, qn295, qn352, qn353, qn533, qn999, qn1000, qn1023, qn6561, qn10000, qn20787, qn1000000, qn252645135, qn858993459, qn1000000000, qn1431655765, qj0, qj1, qj2, qj4, qj7, qj8, qj9, qj10, qj30, qj100, qj1000, qj1000000, qj1000000000, qj1442695040888963407, qj6364136223846793005, q_s1, q_s2, q_s3, q_s4, q_s5, iI_add, iI_sub, iI_mul, iI_neg, q_lt, q_le, q_eq, jI_add, jI_sub, jI_mul, jI_neg, jI_of, jI_to, j_le0, j_ge0, j_lt0, j_gt0, j_eq0, q_dvl, qz0, qz1, qz2, qz3, if_pos, if_neg, reduceIte, m_isP w D1 hp, m_isH w D1 hh, m_isOut]
  · obtain ⟨M1, e1, g1⟩ := c_nd W C hp hh d
    have D2 := ma_D0 (D.ag w g1) w (iI 0)
    obtain ⟨M2, e2, g2, u, D3⟩ := m_nd W D2 hp hh d (iI (s (6 * p + 1)))
    have e3 : ∀ y, gs_wr M2 158 533 (iI (6 * p + 1)) y = some (gs_up M2 158 (6 * p + 1) y) := fun y => m_set (k := 1) p8 (by decide) y
    have D4 := D3.su w (6 * p + 1) (s (6 * p + 1))
    rw [ma_su_su, ma_su_id] at D4
    refine ⟨iI (ma_nd (ma_ne s T V p h) z 10 0), M1, gs_up M2 158 (6 * p + 1) (iI (s (6 * p + 1))), ?_, ?_, s, T, V, W, (C.ag w g1).lo w (((iv_lo.rf.up _ (by decide)).tr g2).up _ (by decide)), D4⟩
    · unfold f_X11_needs
      simp (disch := omega) only [qn0, qn1, qn2, qn3, qn4, qn5, qn6, qn7, qn8, qn9, qn10, qn11, qn12, qn13, qn14, qn15, qn16, qn17, qn18, qn24, qn30, qn31, qn32, qn33, qn36, qn38, qn40, qn41, qn42, qn43, qn45, qn47, qn48, qn49, qn50, qn51, qn52, qn53, qn57, qn58, qn59, qn60, qn61, qn62, qn63, qn91, qn93, qn97, qn99, qn100, qn103, qn104, qn112, qn113, qn115, qn116, qn118, qn119, qn121, qn124, qn173, qn177, qn240, qn255, qn295, qn352, qn353, qn533, qn999, qn1000, qn1023, qn6561, qn10000, qn20787, qn1000000, qn252645135, qn858993459, qn1000000000, qn1431655765, qj0, qj1, qj2, qj4, qj7, qj8, qj9, qj10, qj30, qj100, qj1000, qj1000000, qj1000000000, qj1442695040888963407, qj6364136223846793005, q_s1, q_s2, q_s3, q_s4, q_s5, iI_add, iI_sub, iI_mul, iI_neg, q_lt, q_le, q_eq, jI_add, jI_sub, jI_mul, jI_neg, jI_of, jI_to, j_le0, j_ge0, j_lt0, j_gt0, j_eq0, q_dvl, qz0, qz1, qz2, qz3, if_pos, if_neg, reduceIte, c_isP w C hp, c_isH w C hh, e1]
    · unfold f_X12_needs
      simp (disch := omega) only [qn0, qn1, qn2, qn3, qn4, qn5, qn6, qn7, qn8, qn9, qn10, qn11, qn12, qn13, qn14, qn15, qn16, qn17, qn18, qn24, qn30, qn31, qn32, qn33, qn36, qn38, qn40, qn41, qn42, qn43, qn45, qn47, qn48, qn49, qn50, qn51, qn52, qn53, qn57, qn58, qn59, qn60, qn61, qn62, qn63, qn91, qn93, qn97, qn99, qn100, qn103, qn104, qn112, qn113, qn115, qn116, qn118, qn119, qn121, qn124, qn173, qn177, qn240, qn255, qn295, qn352, qn353, qn533, qn999, qn1000, qn1023, qn6561, qn10000, qn20787, qn1000000, qn252645135, qn858993459, qn1000000000, qn1431655765, qj0, qj1, qj2, qj4, qj7, qj8, qj9, qj10, qj30, qj100, qj1000, qj1000000, qj1000000000, qj1442695040888963407, qj6364136223846793005, q_s1, q_s2, q_s3, q_s4, q_s5, iI_add, iI_sub, iI_mul, iI_neg, q_lt, q_le, q_eq, jI_add, jI_sub, jI_mul, jI_neg, jI_of, jI_to, j_le0, j_ge0, j_lt0, j_gt0, j_eq0, q_dvl, qz0, qz1, qz2, qz3, if_pos, if_neg, reduceIte, m_isP w D2 hp, m_isH w D2 hh, m_isIn, m_of1 D2.st p8, e2, e3]
theorem s_rests : gl_S_rests ma_Inv := by
  intro M L hI x1 x2
  have hI0 := hI
  obtain ⟨s, T, V, W, C, D⟩ := hI
  have w := W.2.1
  obtain ⟨f1, f2, f3, f4, f5, f6, f7, f8, f9, f10, f11, f12, f13, f14, -⟩ := W.2.1
  have D1 := ma_D0 D w (iI 0)
  rcases ma_isM W x1 with ⟨n1, n2⟩ | ⟨p, q, hp, hq, rfl, n1, n2⟩
  · refine ⟨iI (-1), M, gs_up M 147 0 (iI 0), ?_, ?_, hI0.ag (ma_g0 iv_ag.rf _)⟩
    · unfold f_X11_rests
      simp (disch := omega) only [qn0, qn1, qn2, qn3, qn4, qn5, qn6, qn7, qn8, qn9, qn10, qn11, qn12, qn13, qn14, qn15, qn16, qn17, qn18, qn24, qn30, qn31, qn32, qn33, qn36, qn38, qn40, qn41, qn42, qn43, qn45, qn47, qn48, qn49, qn50, qn51, qn52, qn53, qn57, qn58, qn59, qn60, qn61, qn62, qn63, qn91, qn93, qn97, qn99, qn100, qn103, qn104, qn112, qn113, qn115, qn116, qn118, qn119, qn121, qn124, qn173, qn177, qn240, qn255, qn295, qn352, qn353, qn533, qn999, qn1000, qn1023, qn6561, qn10000, qn20787, qn1000000, qn252645135, qn858993459, qn1000000000, qn1431655765, qj0, qj1, qj2, qj4, qj7, qj8, qj9, qj10, qj30, qj100, qj1000, qj1000000, qj1000000000, qj1442695040888963407, qj6364136223846793005, q_s1, q_s2, q_s3, q_s4, q_s5, iI_add, iI_sub, iI_mul, iI_neg, q_lt, q_le, q_eq, jI_add, jI_sub, jI_mul, jI_neg, jI_of, jI_to, j_le0, j_ge0, j_lt0, j_gt0, j_eq0, q_dvl, qz0, qz1, qz2, qz3, if_pos, if_neg, reduceIte, n1 M C]
    · unfold f_X12_rests
      simp (disch := omega) only [qn0, qn1, qn2, qn3, qn4, qn5, qn6, qn7, qn8, qn9, qn10, qn11, qn12, qn13, qn14, qn15, qn16, qn17, qn18, qn24, qn30, qn31, qn32, qn33, qn36, qn38, qn40, qn41, qn42, qn43, qn45, qn47, qn48, qn49, qn50, qn51, qn52, qn53, qn57, qn58, qn59, qn60, qn61, qn62, qn63, qn91, qn93, qn97, qn99, qn100, qn103, qn104, qn112, qn113, qn115, qn116, qn118, qn119, qn121, qn124, qn173, qn177, qn240, qn255, qn295, qn352, qn353, qn533, qn999, qn1000, qn1023, qn6561, qn10000, qn20787, qn1000000, qn252645135, qn858993459, qn1000000000, qn1431655765, qj0, qj1, qj2, qj4, qj7, qj8, qj9, qj10, qj30, qj100, qj1000, qj1000000, qj1000000000, qj1442695040888963407, qj6364136223846793005, q_s1, q_s2, q_s3, q_s4, q_s5, iI_add, iI_sub, iI_mul, iI_neg, q_lt, q_le, q_eq, jI_add, jI_sub, jI_mul, jI_neg, jI_of, jI_to, j_le0, j_ge0, j_lt0, j_gt0, j_eq0, q_dvl, qz0, qz1, qz2, qz3, if_pos, if_neg, reduceIte, n2 _ D1]
  obtain ⟨m1, m2⟩ := n1 M C
  obtain ⟨m3, m4⟩ := n2 _ D1
  obtain ⟨z, z1, z2, rfl⟩ := q_any x2
  rcases (by omega : z < -1 ∨ -1 ≤ z) with d | d
  · refine ⟨iI (-1), M, gs_up M 147 0 (iI 0), ?_, ?_, hI0.ag (ma_g0 iv_ag.rf _)⟩
    · unfold f_X11_rests
      simp (disch := omega) only [qn0, qn1, qn2, qn3, qn4, qn5, qn6, qn7, qn8, qn9, qn10, qn11, qn12, qn13, qn14, qn15, qn16, qn17, qn18, qn24, qn30, qn31, qn32, qn33, qn36, qn38, qn40, qn41, qn42, qn43, qn45, qn47, qn48, qn49, qn50, qn51, qn52, qn53, qn57, qn58, qn59, qn60, qn61, qn62, qn63, qn91, qn93, qn97, qn99, qn100, qn103, qn104, qn112, qn113, qn115, qn116, qn118, qn119, qn121, qn124, qn173, qn177, qn240, qn255, qn295, qn352, qn353, qn533, qn999, qn1000, qn1023, qn6561, qn10000, qn20787, qn1000000, qn252645135, qn858993459, qn1000000000, qn1431655765, qj0, qj1, qj2, qj4, qj7, qj8, qj9, qj10, qj30, qj100, qj1000, qj1000000, qj1000000000, qj1442695040888963407, qj6364136223846793005, q_s1, q_s2, q_s3, q_s4, q_s5, iI_add, iI_sub, iI_mul, iI_neg, q_lt, q_le, q_eq, jI_add, jI_sub, jI_mul, jI_neg, jI_of, jI_to, j_le0, j_ge0, j_lt0, j_gt0, j_eq0, q_dvl, qz0, qz1, qz2, qz3, if_pos, if_neg, reduceIte, m1]
    · unfold f_X12_rests
      simp (disch := omega) only [qn0, qn1, qn2, qn3, qn4, qn5, qn6, qn7, qn8, qn9, qn10, qn11, qn12, qn13, qn14, qn15, qn16, qn17, qn18, qn24, qn30, qn31, qn32, qn33, qn36, qn38, qn40, qn41, qn42, qn43, qn45, qn47, qn48, qn49, qn50, qn51, qn52, qn53, qn57, qn58, qn59, qn60, qn61, qn62, qn63, qn91, qn93, qn97, qn99, qn100, qn103, qn104, qn112, qn113, qn115, qn116, qn118, qn119, qn121, qn124, qn173, qn177, qn240, qn255, qn295, qn352, qn353, qn533, qn999, qn1000, qn1023, qn6561, qn10000, qn20787, qn1000000, qn252645135, qn858993459, qn1000000000, qn1431655765, qj0, qj1, qj2, qj4, qj7, qj8, qj9, qj10, qj30, qj100, qj1000, qj1000000, qj1000000000, qj1442695040888963407, qj6364136223846793005, q_s1, q_s2, q_s3, q_s4, q_s5, iI_add, iI_sub, iI_mul, iI_neg, q_lt, q_le, q_eq, jI_add, jI_sub, jI_mul, jI_neg, jI_of, jI_to, j_le0, j_ge0, j_lt0, j_gt0, j_eq0, q_dvl, qz0, qz1, qz2, qz3, if_pos, if_neg, reduceIte, m3]
  · obtain ⟨M1, e1, g1⟩ := c_case W C hp f7
    have C1 := C.ag w g1
    obtain ⟨m5, m6⟩ := n1 M1 C1
    obtain ⟨M2, e2, g2⟩ := c_case W C1 hq f7
    have e3 := c_re (M := M2) (ma_cs_b W.1 T V (T 3 2) p) (ma_cs_b W.1 T V (T 3 2) q) (iI p) (z := z) (by omega)
    have D2 := ma_D0 (D.ag w (g1.tr g2)) w (iI 0)
    obtain ⟨m7, m8⟩ := n2 _ D2
    obtain ⟨M3, e4, g3⟩ := m_re W D2 hp hq (z := z) (by omega)
    refine ⟨iI (ma_re z), M2, M3, ?_, ?_, hI0.ag ((ma_g0 (g1.tr g2) _).tr g3)⟩
    · unfold f_X11_rests f_X4_holding
      simp (disch := omega) only [qn0, qn1, qn2, qn3, qn4, qn5, qn6, qn7, qn8, qn9, qn10, qn11, qn12, qn13, qn14, qn15, qn16, qn17, qn18, qn24, qn30, qn31, qn32, qn33, qn36, qn38, qn40, qn41, qn42, qn43, qn45, qn47, qn48, qn49, qn50, qn51, qn52, qn53, qn57, qn58, qn59, qn60, qn61, qn62, qn63, qn91, qn93, qn97, qn99, qn100, qn103, qn104, qn112, qn113, qn115, qn116, qn118, qn119, qn121, qn124, qn173, qn177, qn240, qn255, qn295, qn352, qn353, qn533, qn999, qn1000, qn1023, qn6561, qn10000, qn20787, qn1000000, qn252645135, qn858993459, qn1000000000, qn1431655765, q_s1, q_s2, q_s3, q_s4, q_s5, iI_add, iI_sub, iI_mul, iI_neg, q_lt, q_le, q_eq, qz0, qz1, qz2, qz3, if_pos, if_neg, reduceIte, m1, C.la, e1, m6, C1.la, e2, e3]
    · unfold f_X12_rests
      simp (disch := omega) only [qn0, qn1, qn2, qn3, qn4, qn5, qn6, qn7, qn8, qn9, qn10, qn11, qn12, qn13, qn14, qn15, qn16, qn17, qn18, qn24, qn30, qn31, qn32, qn33, qn36, qn38, qn40, qn41, qn42, qn43, qn45, qn47, qn48, qn49, qn50, qn51, qn52, qn53, qn57, qn58, qn59, qn60, qn61, qn62, qn63, qn91, qn93, qn97, qn99, qn100, qn103, qn104, qn112, qn113, qn115, qn116, qn118, qn119, qn121, qn124, qn173, qn177, qn240, qn255, qn295, qn352, qn353, qn533, qn999, qn1000, qn1023, qn6561, qn10000, qn20787, qn1000000, qn252645135, qn858993459, qn1000000000, qn1431655765, q_s1, q_s2, q_s3, q_s4, q_s5, iI_add, iI_sub, iI_mul, iI_neg, q_lt, q_le, q_eq, qz0, qz1, qz2, qz3, if_pos, if_neg, reduceIte, m7, m8, e4]
theorem s_line : gl_S_line ma_Inv := by
  intro M L hI
  have hI0 := hI
  obtain ⟨s, T, V, W, C, D⟩ := hI
  have w := W.2.1
  obtain ⟨f1, f2, f3, f4, f5, f6, f7, f8, f9, f10, f11, f12, f13, f14, -⟩ := W.2.1
  have D1 := ma_D0 D w (iI 0)
  rcases (by omega : T 3 0 = 0 ∨ 0 < T 3 0) with c | c
  · refine ⟨iI (-1), M, gs_up M 147 0 (iI 0), ?_, ?_, hI0.ag (ma_g0 iv_ag.rf _)⟩
    · unfold f_X11_line
      simp (disch := omega) only [qn0, qn1, qn2, qn3, qn4, qn5, qn6, qn7, qn8, qn9, qn10, qn11, qn12, qn13, qn14, qn15, qn16, qn17, qn18, qn24, qn30, qn31, qn32, qn33, qn36, qn38, qn40, qn41, qn42, qn43, qn45, qn47, qn48, qn49, qn50, qn51, qn52, qn53, qn57, qn58, qn59, qn60, qn61, qn62, qn63, qn91, qn93, qn97, qn99, qn100, qn103, qn104, qn112, qn113, qn115, qn116, qn118, qn119, qn121, qn124, qn173, qn177, qn240, qn255, qn295, qn352, qn353, qn533, qn999, qn1000, qn1023, qn6561, qn10000, qn20787, qn1000000, qn252645135, qn858993459, qn1000000000, qn1431655765, qj0, qj1, qj2, qj4, qj7, qj8, qj9, qj10, qj30, qj100, qj1000, qj1000000, qj1000000000, qj1442695040888963407, qj6364136223846793005, q_s1, q_s2, q_s3, q_s4, q_s5, iI_add, iI_sub, iI_mul, iI_neg, q_lt, q_le, q_eq, jI_add, jI_sub, jI_mul, jI_neg, jI_of, jI_to, j_le0, j_ge0, j_lt0, j_gt0, j_eq0, q_dvl, qz0, qz1, qz2, qz3, if_pos, if_neg, reduceIte, c_town0 C c]
    · unfold f_X12_line
      simp (disch := omega) only [qn0, qn1, qn2, qn3, qn4, qn5, qn6, qn7, qn8, qn9, qn10, qn11, qn12, qn13, qn14, qn15, qn16, qn17, qn18, qn24, qn30, qn31, qn32, qn33, qn36, qn38, qn40, qn41, qn42, qn43, qn45, qn47, qn48, qn49, qn50, qn51, qn52, qn53, qn57, qn58, qn59, qn60, qn61, qn62, qn63, qn91, qn93, qn97, qn99, qn100, qn103, qn104, qn112, qn113, qn115, qn116, qn118, qn119, qn121, qn124, qn173, qn177, qn240, qn255, qn295, qn352, qn353, qn533, qn999, qn1000, qn1023, qn6561, qn10000, qn20787, qn1000000, qn252645135, qn858993459, qn1000000000, qn1431655765, qj0, qj1, qj2, qj4, qj7, qj8, qj9, qj10, qj30, qj100, qj1000, qj1000000, qj1000000000, qj1442695040888963407, qj6364136223846793005, q_s1, q_s2, q_s3, q_s4, q_s5, iI_add, iI_sub, iI_mul, iI_neg, q_lt, q_le, q_eq, jI_add, jI_sub, jI_mul, jI_neg, jI_of, jI_to, j_le0, j_ge0, j_lt0, j_gt0, j_eq0, q_dvl, qz0, qz1, qz2, qz3, if_pos, if_neg, reduceIte, D1.fo]
  obtain ⟨M1, e1, g1, h1⟩ := c_ln1 W C
  have C1 := C.co w g1
  have e2 := c_ln2 W C1 h1
  have D2 := ma_D0 (D.co w g1) w (iI 0)
  obtain ⟨M2, e3, g2⟩ := m_ln2 W D2
  refine ⟨iI (ma_li (ma_cn s T V) (T 3 0).toNat (T 3 0).toNat).1, M1, M2, ?_, ?_, hI0.co ((g1.up _ rfl).tr g2.co)⟩
  · unfold f_X11_line
    simp (disch := omega) only [qn0, qn1, qn2, qn3, qn4, qn5, qn6, qn7, qn8, qn9, qn10, qn11, qn12, qn13, qn14, qn15, qn16, qn17, qn18, qn24, qn30, qn31, qn32, qn33, qn36, qn38, qn40, qn41, qn42, qn43, qn45, qn47, qn48, qn49, qn50, qn51, qn52, qn53, qn57, qn58, qn59, qn60, qn61, qn62, qn63, qn91, qn93, qn97, qn99, qn100, qn103, qn104, qn112, qn113, qn115, qn116, qn118, qn119, qn121, qn124, qn173, qn177, qn240, qn255, qn295, qn352, qn353, qn533, qn999, qn1000, qn1023, qn6561, qn10000, qn20787, qn1000000, qn252645135, qn858993459, qn1000000000, qn1431655765, q_s1, q_s2, q_s3, q_s4, q_s5, iI_add, iI_sub, iI_mul, iI_neg, q_lt, q_le, q_eq, qz0, qz1, qz2, qz3, if_pos, if_neg, reduceIte, c_town1 w C c, e1, e2]
  · unfold f_X12_line
    simp (disch := omega) only [qn0, qn1, qn2, qn3, qn4, qn5, qn6, qn7, qn8, qn9, qn10, qn11, qn12, qn13, qn14, qn15, qn16, qn17, qn18, qn24, qn30, qn31, qn32, qn33, qn36, qn38, qn40, qn41, qn42, qn43, qn45, qn47, qn48, qn49, qn50, qn51, qn52, qn53, qn57, qn58, qn59, qn60, qn61, qn62, qn63, qn91, qn93, qn97, qn99, qn100, qn103, qn104, qn112, qn113, qn115, qn116, qn118, qn119, qn121, qn124, qn173, qn177, qn240, qn255, qn295, qn352, qn353, qn533, qn999, qn1000, qn1023, qn6561, qn10000, qn20787, qn1000000, qn252645135, qn858993459, qn1000000000, qn1431655765, q_s1, q_s2, q_s3, q_s4, q_s5, iI_add, iI_sub, iI_mul, iI_neg, q_lt, q_le, q_eq, qz0, qz1, qz2, qz3, if_pos, if_neg, reduceIte, D2.fo, e3]
