/-! bits; what must be worried, COUPLES at rest, the LINE -/
theorem b_tb {z i : Nat} (hz : z < 2147483648) (hi : i < 31) : (iI z >>> (iI i &&& iI 31)) &&& iI 1 = iI (if z.testBit i then 1 else 0) := by
  have h1 : (0 : Int) ≤ (z : Int) / 2 ^ i := Int.ediv_nonneg (by omega) (Int.pow_nonneg (by decide))
  have h2 : (z : Int) / 2 ^ i ≤ z := Int.ediv_le_self _ (by omega)
  rw [q_shr i (by omega) (by omega), q_an1 (by omega), Nat.testBit_eq_decide_div_mod_eq]
  have e : (z : Int) / 2 ^ i % 2 = ((z / 2 ^ i % 2 : Nat) : Int) := by
    rw [Int.natCast_emod, Int.natCast_ediv, Int.natCast_pow]
    rfl
  rw [e]
  congr 1
  by_cases c : z / 2 ^ i % 2 = 1
  · rw [c]
    simp
  · have c0 : z / 2 ^ i % 2 = 0 := by omega
    rw [c0]
    simp
theorem b_sh {b : Nat} (hb : b < 31) : iI 1 <<< (iI b &&& iI 31) = iI (2 ^ b : Nat) := by
  have h := Nat.pow_lt_pow_right (a := 2) (by decide) (show b < 32 by omega)
  have e := pk_shlN (n := 1) (nI b &&& 31) b (q_sl b (by omega)) (by omega)
  rw [Nat.one_mul] at e
  exact e
theorem b_or (x y : Nat) : iI x ||| iI y = iI ((x ||| y : Nat) : Int) := by
  apply Int32.toBitVec_inj.1
  show BitVec.ofInt 32 x ||| BitVec.ofInt 32 y = BitVec.ofInt 32 ((x ||| y : Nat) : Int)
  rw [BitVec.ofInt_natCast, BitVec.ofInt_natCast, BitVec.ofInt_natCast, BitVec.ofNat_or]
theorem b_and (x y : Nat) : iI x &&& iI y = iI ((x &&& y : Nat) : Int) := by
  apply Int32.toBitVec_inj.1
  show BitVec.ofInt 32 x &&& BitVec.ofInt 32 y = BitVec.ofInt 32 ((x &&& y : Nat) : Int)
  rw [BitVec.ofInt_natCast, BitVec.ofInt_natCast, BitVec.ofInt_natCast, BitVec.ofNat_and]
theorem ma_dn {σ ρ : Type} (F : Nat → Int32 → σ → Option ρ) (n : Nat) (P : Nat → σ → Prop) (Q : ρ → Prop)
    (hs : ∀ (f i : Nat) (s : σ), i < n → P (i + 1) s → (∃ s', F (f + 1) (iI i) s = F f (iI ((i : Int) + -1)) s' ∧ P i s') ∨ ∃ r, F (f + 1) (iI i) s = some r ∧ Q r)
    (he : ∀ (f : Nat) (s : σ), P 0 s → ∃ r, F (f + 1) (iI (-1)) s = some r ∧ Q r) :
    ∀ (i : Nat) (s : σ) (f : Nat), i ≤ n → P i s → i < f → ∃ r, F f (iI ((i : Int) + -1)) s = some r ∧ Q r := by
  intro i
  induction i with
  | zero =>
    intro s f hi hp hf
    obtain ⟨g, rfl⟩ : ∃ g, f = g + 1 := ⟨f - 1, by omega⟩
    exact he g s hp
  | succ i ih =>
    intro s f hi hp hf
    obtain ⟨g, rfl⟩ : ∃ g, f = g + 1 := ⟨f - 1, by omega⟩
    rw [show ((i + 1 : Nat) : Int) + -1 = i by omega]
    rcases hs g i s (by omega) hp with ⟨s', e, hp'⟩ | h
    · rw [e]
      exact ih s' g (by omega) hp' (by omega)
    · exact h
section Line
variable {s : Nat → Int} {T : Nat → Nat → Int} {V : ma_V} {M : gs_M}
/-- the first place at which it isn't less -/
def ma_nd (f : Nat → Int) (v : Int) : Nat → Nat → Int
  | 0, _ => -1
  | d + 1, i => if f i < v then ma_nd f v d (i + 1) else i
theorem ma_nd0 (f : Nat → Int) (v : Int) {i : Nat} (hi : i < 10) : ma_nd f v (10 - i) i = if f i < v then ma_nd f v (10 - (i + 1)) (i + 1) else i := by
  obtain ⟨d, e⟩ : ∃ d, 10 - i = d + 1 := ⟨9 - i, by omega⟩
  rw [e, show 10 - (i + 1) = d by omega]
  simp only [ma_nd]
def ma_ne (s : Nat → Int) (T : Nat → Nat → Int) (V : ma_V) (p h : Nat) (u : Nat) : Int := ma_wk s T V p h (s (6 * p)) u
theorem c_nd (W : ma_W s T V) (C : ma_C s T V M) {p h : Nat} (hp : (p : Int) < T 3 0) (hh : (h : Int) < T 1 0) {v : Int} (hv : 0 ≤ v ∧ v ≤ 10) : ∃ M1, l_X11_needs_31 (iI p) (iI h) (iI v) gs_FU (iI 0) M = some (iI (ma_nd (ma_ne s T V p h) v 10 0), M1) ∧ iv_ag M M1 := by
  have f1 := W.2.1.1
  have p8 : p < 8 := by omega
  have o := W.1.1 p p8
  unfold ma_one at o
  obtain ⟨r, e, M1, rfl, g⟩ := ma_up0 (fun f i (N : gs_M) => l_X11_needs_31 (iI p) (iI h) (iI v) f i N) 10
    (fun i N => iv_ag M N ∧ ma_nd (ma_ne s T V p h) v (10 - i) i = ma_nd (ma_ne s T V p h) v 10 0)
    (fun r => ∃ M1, r = (iI (ma_nd (ma_ne s T V p h) v 10 0), M1) ∧ iv_ag M M1) M (by decide) ⟨iv_ag.rf, rfl⟩
    (by
      intro f i N hi ⟨hM, hP⟩
      have CN := C.ag W.2.1 hM
      obtain ⟨N1, e1, g1⟩ := c_wk W CN hp hh (g := s (6 * p)) (w := i) (by omega) (by omega)
      rw [show ma_wk s T V p h (s (6 * p)) i = ma_ne s T V p h i from rfl] at e1
      have b1 : 0 ≤ ma_ne s T V p h i ∧ ma_ne s T V p h i ≤ 10 := ma_wk_b _ _ _ _ _ _ _
      have e2 := c_of0 CN.st p8
      rw [ma_nd0 _ _ hi] at hP
      simp only [l_X11_needs_31]
      by_cases c : ma_ne s T V p h i < v
      · left
        rw [if_pos c] at hP
        refine ⟨N1, ?_, hM.tr g1, hP⟩
        simp (disch := omega) only [qn0, qn1, qn2, qn3, qn4, qn5, qn6, qn7, qn8, qn9, qn10, qn11, qn12, qn13, qn14, qn15, qn16, qn17, qn18, qn24, qn30, qn31, qn32, qn33, qn36, qn38, qn40, qn41, qn42, qn43, qn45, qn47, qn48, qn49, qn50, qn51, qn52, qn53, qn57, qn58, qn59, qn60, qn61, qn62, qn63, qn91, qn93, qn97, qn99, qn100, qn103, qn104, qn112, qn113, qn115, qn116, qn118, qn119, qn121, qn124, qn173, qn177, qn240, qn255, qn295, qn352, qn353, qn533, qn999, qn1000, qn1023, qn6561, qn10000, qn20787, qn1000000, qn252645135, qn858993459, qn1000000000, qn1431655765, q_s1, q_s2, q_s3, q_s4, q_s5, iI_add, iI_sub, iI_mul, iI_neg, q_lt, q_le, q_eq, qz0, qz1, qz2, qz3, if_pos, if_neg, reduceIte, e2, e1]
      · right
        rw [if_neg c] at hP
        refine ⟨(iI i, N1), ?_, N1, by rw [hP], hM.tr g1⟩
        simp (disch := omega) only [qn0, qn1, qn2, qn3, qn4, qn5, qn6, qn7, qn8, qn9, qn10, qn11, qn12, qn13, qn14, qn15, qn16, qn17, qn18, qn24, qn30, qn31, qn32, qn33, qn36, qn38, qn40, qn41, qn42, qn43, qn45, qn47, qn48, qn49, qn50, qn51, qn52, qn53, qn57, qn58, qn59, qn60, qn61, qn62, qn63, qn91, qn93, qn97, qn99, qn100, qn103, qn104, qn112, qn113, qn115, qn116, qn118, qn119, qn121, qn124, qn173, qn177, qn240, qn255, qn295, qn352, qn353, qn533, qn999, qn1000, qn1023, qn6561, qn10000, qn20787, qn1000000, qn252645135, qn858993459, qn1000000000, qn1431655765, q_s1, q_s2, q_s3, q_s4, q_s5, iI_add, iI_sub, iI_mul, iI_neg, q_lt, q_le, q_eq, qz0, qz1, qz2, qz3, if_pos, if_neg, reduceIte, e2, e1])
    (by
      intro f N ⟨hM, hP⟩
      refine ⟨(iI (-1), N), ?_, N, by rw [← hP]; rfl, hM⟩
      simp only [l_X11_needs_31]
      simp (disch := omega) only [qn0, qn1, qn2, qn3, qn4, qn5, qn6, qn7, qn8, qn9, qn10, qn11, qn12, qn13, qn14, qn15, qn16, qn17, qn18, qn24, qn30, qn31, qn32, qn33, qn36, qn38, qn40, qn41, qn42, qn43, qn45, qn47, qn48, qn49, qn50, qn51, qn52, qn53, qn57, qn58, qn59, qn60, qn61, qn62, qn63, qn91, qn93, qn97, qn99, qn100, qn103, qn104, qn112, qn113, qn115, qn116, qn118, qn119, qn121, qn124, qn173, qn177, qn240, qn255, qn295, qn352, qn353, qn533, qn999, qn1000, qn1023, qn6561, qn10000, qn20787, qn1000000, qn252645135, qn858993459, qn1000000000, qn1431655765, q_s1, q_s2, q_s3, q_s4, q_s5, iI_add, iI_sub, iI_mul, iI_neg, q_lt, q_le, q_eq, qz0, qz1, qz2, qz3, if_pos, if_neg, reduceIte])
  exact ⟨M1, e, g⟩
theorem ma_ne_su {p h : Nat} (u : Int) : ma_wk (ma_su s (6 * p + 1) u) T V p h (ma_su s (6 * p + 1) u (6 * p)) (ma_su s (6 * p + 1) u (6 * p + 1)) = ma_wk s T V p h (s (6 * p)) u := by
  unfold ma_wk
  rw [ma_su_eq, ma_su_ne _ _ (show 6 * p ≠ 6 * p + 1 by omega), ma_su_ne _ _ (show 6 * p + 2 ≠ 6 * p + 1 by omega), ma_su_ne _ _ (show 6 * p + 3 ≠ 6 * p + 1 by omega)]
theorem m_nd (W : ma_W s T V) (D : ma_M s T V M) {p h : Nat} (hp : (p : Int) < T 3 0) (hh : (h : Int) < T 1 0) {v : Int} (hv : 0 ≤ v ∧ v ≤ 10) (x : Int32) : ∃ M1, l_X12_needs_50 (iI p) (iI h) (iI v) x gs_FU (iI (-1)) (iI 9) M = some (iI (ma_nd (ma_ne s T V p h) v 10 0), iI (-1), M1) ∧ iv_lo M M1 ∧ ∃ u, ma_M (ma_su s (6 * p + 1) u) T V M1 := by
  have w := W.2.1
  have f1 := W.2.1.1
  have p8 : p < 8 := by omega
  obtain ⟨r, e, M1, rfl, g⟩ := ma_dn (fun f i (q : Int32 × gs_M) => l_X12_needs_50 (iI p) (iI h) (iI v) x f q.1 i q.2) 10
    (fun i q => q.1 = iI (ma_nd (ma_ne s T V p h) v (10 - i) i) ∧ iv_lo M q.2 ∧ ∃ u, ma_M (ma_su s (6 * p + 1) u) T V q.2)
    (fun r => ∃ M1, r = (iI (ma_nd (ma_ne s T V p h) v 10 0), iI (-1), M1) ∧ iv_lo M M1 ∧ ∃ u, ma_M (ma_su s (6 * p + 1) u) T V M1)
    (by
      rintro f i ⟨a, N⟩ hi ⟨ha, hM, u, hD⟩
      left
      simp only at ha hM hD
      subst ha
      have W1 : ma_W (ma_su s (6 * p + 1) i) T V := ⟨W.1.su p8 (by decide) (by have : ma_rg 1 = 9 := rfl; omega), W.2⟩
      have D1 : ma_M (ma_su s (6 * p + 1) i) T V (gs_up N 158 (6 * p + 1) (iI i)) := by
        have := hD.su w (6 * p + 1) i
        rw [ma_su_su] at this
        exact this
      obtain ⟨N1, e1, g1⟩ := m_now W1 D1 hp hh
      rw [ma_ne_su, show ma_wk s T V p h (s (6 * p)) i = ma_ne s T V p h i from rfl] at e1
      have b1 : 0 ≤ ma_ne s T V p h i ∧ ma_ne s T V p h i ≤ 10 := ma_wk_b _ _ _ _ _ _ _
      have e2 : ∀ y, gs_wr N 158 533 (iI (6 * p + 1)) y = some (gs_up N 158 (6 * p + 1) y) := fun y => m_set (k := 1) p8 (by decide) y
      refine ⟨(iI (ma_nd (ma_ne s T V p h) v (10 - i) i), N1), ?_, rfl, (hM.up _ (by decide)).tr g1.lo, i, D1.ag w g1⟩
      rw [ma_nd0 _ _ hi]
      simp only [l_X12_needs_50]
      by_cases c : ma_ne s T V p h i < v
      · simp (disch := omega) only [qn0, qn1, qn2, qn3, qn4, qn5, qn6, qn7, qn8, qn9, qn10, qn11, qn12, qn13, qn14, qn15, qn16, qn17, qn18, qn24, qn30, qn31, qn32, qn33, qn36, qn38, qn40, qn41, qn42, qn43, qn45, qn47, qn48, qn49, qn50, qn51, qn52, qn53, qn57, qn58, qn59, qn60, qn61, qn62, qn63, qn91, qn93, qn97, qn99, qn100, qn103, qn104, qn112, qn113, qn115, qn116, qn118, qn119, qn121, qn124, qn173, qn177, qn240, qn255, qn295, qn352, qn353, qn533, qn999, qn1000, qn1023, qn6561, qn10000, qn20787, qn1000000, qn252645135, qn858993459, qn1000000000, qn1431655765, q_s1, q_s2, q_s3, q_s4, q_s5, iI_add, iI_sub, iI_mul, iI_neg, q_lt, q_le, q_eq, qz0, qz1, qz2, qz3, if_pos, if_neg, reduceIte, e2, e1]
      · simp (disch := omega) only [qn0, qn1, qn2, qn3, qn4, qn5, qn6, qn7, qn8, qn9, qn10, qn11, qn12, qn13, qn14, qn15, qn16, qn17, qn18, qn24, qn30, qn31, qn32, qn33, qn36, qn38, qn40, qn41, qn42, qn43, qn45, qn47, qn48, qn49, qn50, qn51, qn52, qn53, qn57, qn58, qn59, qn60, qn61, qn62, qn63, qn91, qn93, qn97, qn99, qn100, qn103, qn104, qn112, qn113, qn115, qn116, qn118, qn119, qn121, qn124, qn173, qn177, qn240, qn255, qn295, qn352, qn353, qn533, qn999, qn1000, qn1023, qn6561, qn10000, qn20787, qn1000000, qn252645135, qn858993459, qn1000000000, qn1431655765, q_s1, q_s2, q_s3, q_s4, q_s5, iI_add, iI_sub, iI_mul, iI_neg, q_lt, q_le, q_eq, qz0, qz1, qz2, qz3, if_pos, if_neg, reduceIte, e2, e1])
    (by
      rintro f ⟨a, N⟩ ⟨ha, hM, hD⟩
      simp only at ha hM hD
      refine ⟨(a, iI (-1), N), ?_, N, by rw [ha], hM, hD⟩
      simp only [l_X12_needs_50]
      simp (disch := omega) only [qn0, qn1, qn2, qn3, qn4, qn5, qn6, qn7, qn8, qn9, qn10, qn11, qn12, qn13, qn14, qn15, qn16, qn17, qn18, qn24, qn30, qn31, qn32, qn33, qn36, qn38, qn40, qn41, qn42, qn43, qn45, qn47, qn48, qn49, qn50, qn51, qn52, qn53, qn57, qn58, qn59, qn60, qn61, qn62, qn63, qn91, qn93, qn97, qn99, qn100, qn103, qn104, qn112, qn113, qn115, qn116, qn118, qn119, qn121, qn124, qn173, qn177, qn240, qn255, qn295, qn352, qn353, qn533, qn999, qn1000, qn1023, qn6561, qn10000, qn20787, qn1000000, qn252645135, qn858993459, qn1000000000, qn1431655765, q_s1, q_s2, q_s3, q_s4, q_s5, iI_add, iI_sub, iI_mul, iI_neg, q_lt, q_le, q_eq, qz0, qz1, qz2, qz3, if_pos, if_neg, reduceIte])
    10 (iI (-1), M) gs_FU (by omega) ⟨rfl, iv_lo.rf, s (6 * p + 1), by rw [ma_su_id]; exact D⟩ (by decide)
  exact ⟨M1, e, g⟩
/-- one goes ahead of the others -/
def ma_fl (c : Nat → Int) (z : Nat) : Nat → Int
  | 0 => -1
  | i + 1 => if z.testBit i = true then ma_fl c z i else if ma_fl c z i = -1 then i else if c i ≤ c (ma_fl c z i).toNat then ma_fl c z i else i
theorem ma_fl_b (c : Nat → Int) (z i : Nat) : -1 ≤ ma_fl c z i ∧ ma_fl c z i < i := by
  induction i with
  | zero => simp [ma_fl]
  | succ i ih =>
    simp only [ma_fl]
    split
    · omega
    · split
      · omega
      · split <;> omega
theorem ma_fl_n (c : Nat → Int) (z : Nat) {i : Nat} (h : 0 ≤ ma_fl c z i) : z.testBit (ma_fl c z i).toNat = false := by
  induction i with
  | zero => simp [ma_fl] at h
  | succ i ih =>
    simp only [ma_fl] at h ⊢
    by_cases c1 : z.testBit i = true
    · rw [if_pos c1] at h ⊢
      exact ih h
    · have c1' : z.testBit i = false := by simpa using c1
      rw [if_neg c1] at h ⊢
      by_cases c2 : ma_fl c z i = -1
      · rw [if_pos c2]
        simpa using c1'
      · rw [if_neg c2] at h ⊢
        have b := ma_fl_b c z i
        by_cases c3 : c i ≤ c (ma_fl c z i).toNat
        · rw [if_pos c3]
          exact ih (by omega)
        · rw [if_neg c3]
          simpa using c1'
theorem ma_fl_e (c : Nat → Int) (z : Nat) {i j : Nat} (hj : j < i) (h : z.testBit j = false) : 0 ≤ ma_fl c z i := by
  induction i with
  | zero => omega
  | succ i ih =>
    have b := ma_fl_b c z i
    simp only [ma_fl]
    by_cases c1 : z.testBit i = true
    · rw [if_pos c1]
      rcases (by omega : j = i ∨ j < i) with d | d
      · subst d
        rw [h] at c1
        cases c1
      · exact ih d
    · rw [if_neg c1]
      by_cases c2 : ma_fl c z i = -1
      · rw [if_pos c2]; omega
      · rw [if_neg c2]
        split <;> omega
def ma_ct (z : Nat) : Nat → Nat
  | 0 => 0
  | i + 1 => ma_ct z i + (if z.testBit i = true then 1 else 0)
theorem ma_ct_e {z n : Nat} (h : ma_ct z n < n) : ∃ j, j < n ∧ z.testBit j = false := by
  induction n with
  | zero => omega
  | succ n ih =>
    simp only [ma_ct] at h
    by_cases c : z.testBit n = true
    · rw [if_pos c] at h
      obtain ⟨j, h1, h2⟩ := ih (by omega)
      exact ⟨j, by omega, h2⟩
    · exact ⟨n, by omega, by simpa using c⟩
theorem ma_ct_o {z b n : Nat} (h : z.testBit b = false) : ma_ct (z ||| 2 ^ b) n = ma_ct z n + (if b < n then 1 else 0) := by
  induction n with
  | zero => simp [ma_ct]
  | succ n ih =>
    simp only [ma_ct]
    rw [ih, Nat.testBit_or, Nat.testBit_two_pow]
    by_cases c : b = n
    · subst c
      rw [h]
      simp
    · rw [decide_eq_false c]
      simp only [Bool.or_false]
      rcases (by omega : b < n ∨ n < b) with d | d
      · rw [if_pos d, if_pos (by omega)]; omega
      · rw [if_neg (by omega), if_neg (by omega)]
def ma_li (c : Nat → Int) (n : Nat) : Nat → Int × Nat
  | 0 => (0, 0)
  | k + 1 => (10 * (ma_li c n k).1 + ma_fl c (ma_li c n k).2 n, (ma_li c n k).2 ||| 2 ^ (ma_fl c (ma_li c n k).2 n).toNat)
theorem ma_li_b (c : Nat → Int) {n : Nat} (hn : n ≤ 8) {k : Nat} (hk : k ≤ n) : ma_ct (ma_li c n k).2 n = k ∧ (ma_li c n k).2 < 256 := by
  induction k with
  | zero =>
    refine ⟨?_, by simp [ma_li]⟩
    simp only [ma_li]
    clear hn hk
    induction n with
    | zero => rfl
    | succ n ih => simp [ma_ct, ih]
  | succ k ih =>
    obtain ⟨h1, h2⟩ := ih (by omega)
    obtain ⟨j, j1, j2⟩ := ma_ct_e (z := (ma_li c n k).2) (n := n) (by omega)
    have h3 := ma_fl_e c (ma_li c n k).2 j1 j2
    have h4 := ma_fl_n c (ma_li c n k).2 h3
    have h5 := ma_fl_b c (ma_li c n k).2 n
    simp only [ma_li]
    refine ⟨?_, ?_⟩
    · rw [ma_ct_o h4, h1, if_pos (by omega)]
    · have h6 := Nat.pow_lt_pow_right (a := 2) (by decide) (show (ma_fl c (ma_li c n k).2 n).toNat < 8 by omega)
      exact Nat.or_lt_two_pow (n := 8) h2 h6
theorem ma_li_f (c : Nat → Int) {n : Nat} (hn : n ≤ 8) {k : Nat} (hk : k < n) : 0 ≤ ma_fl c (ma_li c n k).2 n := by
  obtain ⟨h1, h2⟩ := ma_li_b c hn (k := k) (by omega)
  obtain ⟨j, j1, j2⟩ := ma_ct_e (z := (ma_li c n k).2) (n := n) (by omega)
  exact ma_fl_e c (ma_li c n k).2 j1 j2
def ma_cn (s : Nat → Int) (T : Nat → Nat → Int) (V : ma_V) (p : Nat) : Int := ma_cs s T V (T 3 2) p
theorem c_fl (W : ma_W s T V) (C : ma_C s T V M) (hr : ∀ p : Nat, (p : Int) < T 3 0 → M 146 p = iI (ma_cn s T V p)) {z : Nat} (hz : z < 256) : l_X11_firstInLine_4 M (iI z) gs_FU (iI (-1)) (iI 0) = some (iI (ma_fl (ma_cn s T V) z (T 3 0).toNat), iI ((T 3 0).toNat : Nat)) := by
  have f1 := W.2.1.1
  have e0 := c_crowd C
  obtain ⟨r, e, hr⟩ := ma_up0 (fun f i (q : Int32) => l_X11_firstInLine_4 M (iI z) f q i) (T 3 0).toNat
    (fun i q => q = iI (ma_fl (ma_cn s T V) z i))
    (fun r => r = (iI (ma_fl (ma_cn s T V) z (T 3 0).toNat), iI ((T 3 0).toNat : Nat))) (iI (-1)) (by omega) rfl
    (by
      intro f i q hi hq
      subst hq
      left
      refine ⟨_, ?_, rfl⟩
      have b := ma_fl_b (ma_cn s T V) z i
      have e1 := b_tb (z := z) (i := i) (by omega) (by omega)
      have e2 : gs_rd M 146 10 (iI i) = some (iI (ma_cn s T V i)) := by rw [q_rdn i rfl (by omega) (by decide), hr i (by omega)]
      have b1 : -540 ≤ ma_cn s T V i ∧ ma_cn s T V i ≤ 540 := ma_cs_b W.1 T V _ i
      have b2 : -540 ≤ ma_cn s T V (ma_fl (ma_cn s T V) z i).toNat ∧ ma_cn s T V (ma_fl (ma_cn s T V) z i).toNat ≤ 540 := ma_cs_b W.1 T V _ _
      simp only [l_X11_firstInLine_4, ma_fl]
      by_cases c1 : z.testBit i = true
      · rw [if_pos c1] at e1
        simp (disch := omega) only [qn0, qn1, qn2, qn3, qn4, qn5, qn6, qn7, qn8, qn9, qn10, qn11, qn12, qn13, qn14, qn15, qn16, qn17, qn18, qn24, qn30, qn31, qn32, qn33, qn36, qn38, qn40, qn41, qn42, qn43, qn45, qn47, qn48, qn49, qn50, qn51, qn52, qn53, qn57, qn58, qn59, qn60, qn61, qn62, qn63, qn91, qn93, qn97, qn99, qn100, qn103, qn104, qn112, qn113, qn115, qn116, qn118, qn119, qn121, qn124, qn173, qn177, qn240, qn255, qn295, qn352, qn353, qn533, qn999, qn1000, qn1023, qn6561, qn10000, qn20787, qn1000000, qn252645135, qn858993459, qn1000000000, qn1431655765, q_s1, q_s2, q_s3, q_s4, q_s5, iI_add, iI_sub, iI_mul, iI_neg, q_lt, q_le, q_eq, qz0, qz1, qz2, qz3, if_pos, if_neg, reduceIte, e0, e1, c1]
      · rw [if_neg c1] at e1
        by_cases c2 : ma_fl (ma_cn s T V) z i = -1
        · simp (disch := omega) only [qn0, qn1, qn2, qn3, qn4, qn5, qn6, qn7, qn8, qn9, qn10, qn11, qn12, qn13, qn14, qn15, qn16, qn17, qn18, qn24, qn30, qn31, qn32, qn33, qn36, qn38, qn40, qn41, qn42, qn43, qn45, qn47, qn48, qn49, qn50, qn51, qn52, qn53, qn57, qn58, qn59, qn60, qn61, qn62, qn63, qn91, qn93, qn97, qn99, qn100, qn103, qn104, qn112, qn113, qn115, qn116, qn118, qn119, qn121, qn124, qn173, qn177, qn240, qn255, qn295, qn352, qn353, qn533, qn999, qn1000, qn1023, qn6561, qn10000, qn20787, qn1000000, qn252645135, qn858993459, qn1000000000, qn1431655765, q_s1, q_s2, q_s3, q_s4, q_s5, iI_add, iI_sub, iI_mul, iI_neg, q_lt, q_le, q_eq, qz0, qz1, qz2, qz3, if_pos, if_neg, reduceIte, e0, e1, c1, c2]
        · have e3 : gs_rd M 146 10 (iI (ma_fl (ma_cn s T V) z i)) = some (iI (ma_cn s T V (ma_fl (ma_cn s T V) z i).toNat)) := by
            rw [q_rd ⟨by omega, by omega, by decide⟩, hr _ (by omega)]
          rcases (by omega : ma_cn s T V i ≤ ma_cn s T V (ma_fl (ma_cn s T V) z i).toNat ∨ ma_cn s T V (ma_fl (ma_cn s T V) z i).toNat < ma_cn s T V i) with c3 | c3 <;> simp (disch := omega) only [qn0, qn1, qn2, qn3, qn4, qn5, qn6, qn7, qn8, qn9, qn10, qn11, qn12, qn13, qn14, qn15, qn16, qn17, qn18, qn24, qn30, qn31, qn32, qn33, qn36, qn38, qn40, qn41, qn42, qn43, qn45, qn47, qn48, qn49, qn50, qn51, qn52, qn53, qn57, qn58, qn59, qn60, qn61, qn62, qn63, qn91, qn93, qn97, qn99, qn100, qn103, qn104, qn112, qn113, qn115, qn116, qn118, qn119, qn121, qn124, qn173, qn177, qn240, qn255, qn295, qn352, qn353, qn533, qn999, qn1000, qn1023, qn6561, qn10000, qn20787, qn1000000, qn252645135, qn858993459, qn1000000000, qn1431655765, q_s1, q_s2, q_s3, q_s4, q_s5, iI_add, iI_sub, iI_mul, iI_neg, q_lt, q_le, q_eq, qz0, qz1, qz2, qz3, if_pos, if_neg, reduceIte, e0, e1, c1, c2, e2, e3])
    (by
      intro f q hq
      subst hq
      refine ⟨_, ?_, rfl⟩
      simp only [l_X11_firstInLine_4]
      simp (disch := omega) only [qn0, qn1, qn2, qn3, qn4, qn5, qn6, qn7, qn8, qn9, qn10, qn11, qn12, qn13, qn14, qn15, qn16, qn17, qn18, qn24, qn30, qn31, qn32, qn33, qn36, qn38, qn40, qn41, qn42, qn43, qn45, qn47, qn48, qn49, qn50, qn51, qn52, qn53, qn57, qn58, qn59, qn60, qn61, qn62, qn63, qn91, qn93, qn97, qn99, qn100, qn103, qn104, qn112, qn113, qn115, qn116, qn118, qn119, qn121, qn124, qn173, qn177, qn240, qn255, qn295, qn352, qn353, qn533, qn999, qn1000, qn1023, qn6561, qn10000, qn20787, qn1000000, qn252645135, qn858993459, qn1000000000, qn1431655765, q_s1, q_s2, q_s3, q_s4, q_s5, iI_add, iI_sub, iI_mul, iI_neg, q_lt, q_le, q_eq, qz0, qz1, qz2, qz3, if_pos, if_neg, reduceIte, e0])
  subst hr
  exact e
theorem c_l1_l (W : ma_W s T V) (C : ma_C s T V M) : ∃ M1, l_X11_line_11  gs_FU (iI 0) M = some (iI ((T 3 0).toNat : Nat), M1) ∧ iv_ag M M1 := by
  obtain ⟨f1, f2, f3, f4, f5, f6, f7, f8, -⟩ := W.2.1
  obtain ⟨r, e, hr⟩ := ma_up0 (fun f i (q9 : gs_M) => l_X11_line_11  f i q9) ((T 3 0).toNat)
    (fun i q9 => iv_ag M q9)
    (fun r => ∃ M1, r = (iI ((T 3 0).toNat : Nat), M1) ∧ iv_ag M M1) (M) (by omega)
    iv_ag.rf
    (by
      rintro f i N hi hM
      left
      have CN := C.ag W.2.1 hM
      obtain ⟨N1, e1, g1⟩ := c_case W CN (p := i) (by omega) f7
      have e2 : ∀ v, gs_wr N1 146 10 (iI i) v = some (gs_up N1 146 i v) := fun v => q_wrn i rfl (by omega) (by decide)
      have gM := g1.up (i := 146) (k := i) (iI (ma_cs s T V (T 3 2) i)) rfl
      refine ⟨gs_up N1 146 i (iI (ma_cs s T V (T 3 2) i)), ?_, hM.tr gM⟩
      simp only [l_X11_line_11]
      simp (disch := omega) only [qn0, qn1, qn2, qn3, qn4, qn5, qn6, qn7, qn8, qn9, qn10, qn11, qn12, qn13, qn14, qn15, qn16, qn17, qn18, qn24, qn30, qn31, qn32, qn33, qn36, qn38, qn40, qn41, qn42, qn43, qn45, qn47, qn48, qn49, qn50, qn51, qn52, qn53, qn57, qn58, qn59, qn60, qn61, qn62, qn63, qn91, qn93, qn97, qn99, qn100, qn103, qn104, qn112, qn113, qn115, qn116, qn118, qn119, qn121, qn124, qn173, qn177, qn240, qn255, qn295, qn352, qn353, qn533, qn999, qn1000, qn1023, qn6561, qn10000, qn20787, qn1000000, qn252645135, qn858993459, qn1000000000, qn1431655765, q_s1, q_s2, q_s3, q_s4, q_s5, iI_add, iI_sub, iI_mul, iI_neg, q_lt, q_le, q_eq, qz0, qz1, qz2, qz3, if_pos, if_neg, reduceIte, f_X4_holding, CN.la, c_crowd CN, e1, e2])
    (by
      rintro f N hM
      have CN := C.ag W.2.1 hM
      refine ⟨(iI ((T 3 0).toNat : Nat), N), ?_, N, rfl, hM⟩
      simp only [l_X11_line_11]
      simp (disch := omega) only [qn0, qn1, qn2, qn3, qn4, qn5, qn6, qn7, qn8, qn9, qn10, qn11, qn12, qn13, qn14, qn15, qn16, qn17, qn18, qn24, qn30, qn31, qn32, qn33, qn36, qn38, qn40, qn41, qn42, qn43, qn45, qn47, qn48, qn49, qn50, qn51, qn52, qn53, qn57, qn58, qn59, qn60, qn61, qn62, qn63, qn91, qn93, qn97, qn99, qn100, qn103, qn104, qn112, qn113, qn115, qn116, qn118, qn119, qn121, qn124, qn173, qn177, qn240, qn255, qn295, qn352, qn353, qn533, qn999, qn1000, qn1023, qn6561, qn10000, qn20787, qn1000000, qn252645135, qn858993459, qn1000000000, qn1431655765, q_s1, q_s2, q_s3, q_s4, q_s5, iI_add, iI_sub, iI_mul, iI_neg, q_lt, q_le, q_eq, qz0, qz1, qz2, qz3, if_pos, if_neg, reduceIte, c_crowd CN])
  obtain ⟨M1, rfl, g⟩ := hr
  exact ⟨M1, e, g⟩
end Line
