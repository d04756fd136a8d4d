/-! sets of HOURS: CANDLES, the likeliest, how to seem innocent -/
def ma_bc (x : Int32) : Int32 := (f_J6_bitCount_0f7a4 x).getD 0
theorem q_bc (x : Int32) : f_J6_bitCount_0f7a4 x = some (ma_bc x) := rfl
theorem b_all_or (z a b : Nat) : (z &&& (a ||| b) = a ||| b) ↔ (z &&& a = a) ∧ (z &&& b = b) := by
  constructor
  · intro h
    have h1 : ∀ i, (z &&& (a ||| b)).testBit i = (a ||| b).testBit i := fun i => by rw [h]
    refine ⟨Nat.eq_of_testBit_eq fun i => ?_, Nat.eq_of_testBit_eq fun i => ?_⟩
    · have := h1 i
      rw [Nat.testBit_and, Nat.testBit_or] at this
      rw [Nat.testBit_and]
      cases ha : a.testBit i <;> cases hz : z.testBit i <;> simp [ha, hz] at this ⊢
    · have := h1 i
      rw [Nat.testBit_and, Nat.testBit_or] at this
      rw [Nat.testBit_and]
      cases ha : b.testBit i <;> cases hz : z.testBit i <;> simp [ha, hz] at this ⊢
  · intro ⟨h1, h2⟩
    rw [Nat.and_or_distrib_left, h1, h2]
theorem b_no_or (z a b : Nat) : (z &&& (a ||| b) = 0) ↔ (z &&& a = 0) ∧ (z &&& b = 0) := by
  rw [Nat.and_or_distrib_left]
  constructor
  · intro h
    have h1 : ∀ i, ((z &&& a) ||| (z &&& b)).testBit i = false := fun i => by rw [h]; simp
    refine ⟨Nat.eq_of_testBit_eq fun i => ?_, Nat.eq_of_testBit_eq fun i => ?_⟩
    · have := h1 i
      rw [Nat.testBit_or] at this
      rw [Nat.zero_testBit]
      cases hx : (z &&& a).testBit i
      · rfl
      · rw [hx] at this; simp at this
    · have := h1 i
      rw [Nat.testBit_or] at this
      rw [Nat.zero_testBit]
      cases hx : (z &&& b).testBit i
      · rfl
      · rw [hx] at this; simp at this
  · intro ⟨h1, h2⟩
    rw [h1, h2]
    rfl
theorem b_all_p (z h : Nat) : (z &&& 2 ^ h = 2 ^ h) ↔ z.testBit h = true := by
  constructor
  · intro e
    have : (z &&& 2 ^ h).testBit h = (2 ^ h).testBit h := by rw [e]
    rw [Nat.testBit_and, Nat.testBit_two_pow_self, Bool.and_true] at this
    exact this
  · intro e
    apply Nat.eq_of_testBit_eq
    intro i
    rw [Nat.testBit_and, Nat.testBit_two_pow]
    by_cases c : h = i
    · subst c
      simp [e]
    · simp [c]
theorem b_no_p (z h : Nat) : (z &&& 2 ^ h = 0) ↔ z.testBit h = false := by
  constructor
  · intro e
    have : (z &&& 2 ^ h).testBit h = (0 : Nat).testBit h := by rw [e]
    rw [Nat.testBit_and, Nat.testBit_two_pow_self, Bool.and_true, Nat.zero_testBit] at this
    exact this
  · intro e
    apply Nat.eq_of_testBit_eq
    intro i
    rw [Nat.testBit_and, Nat.testBit_two_pow, Nat.zero_testBit]
    by_cases c : h = i
    · subst c
      simp [e]
    · simp [c]
/-- HOUR by HOUR, LAMP by LAMP: may a set be -/
def ma_oh (f : Nat → Int) (z : Nat) : Nat → Bool
  | 0 => true
  | h + 1 => ma_oh f z h && (if z.testBit h = true then decide (f h ≠ 0) else decide (f h ≠ 10))
def ma_ol (T : Nat → Nat → Int) (p z : Nat) : Nat → Bool
  | 0 => true
  | k + 1 => ma_ol T p z k && (if T 6 (3 * k) = p then decide (z.testBit (T 6 (3 * k + 1)).toNat = decide (T 6 (3 * k + 2) = 1)) else true)
theorem ma_oh_f {f : Nat → Int} {z i : Nat} (h : ma_oh f z i = false) {n : Nat} (hn : i ≤ n) : ma_oh f z n = false := by
  induction n with
  | zero =>
    have : i = 0 := by omega
    subst this
    exact h
  | succ n ih =>
    rcases (by omega : i = n + 1 ∨ i ≤ n) with c | c
    · subst c
      exact h
    · simp only [ma_oh]
      rw [ih c, Bool.false_and]
theorem ma_ol_f {T : Nat → Nat → Int} {p z i : Nat} (h : ma_ol T p z i = false) {n : Nat} (hn : i ≤ n) : ma_ol T p z n = false := by
  induction n with
  | zero =>
    have : i = 0 := by omega
    subst this
    exact h
  | succ n ih =>
    rcases (by omega : i = n + 1 ∨ i ≤ n) with c | c
    · subst c
      exact h
    · simp only [ma_ol]
      rw [ih c, Bool.false_and]
/-- the same by masks -/
def ma_m1 (f : Nat → Int) (v : Int) : Nat → Nat
  | 0 => 0
  | h + 1 => ma_m1 f v h ||| (if f h = v then 2 ^ h else 0)
def ma_m2 (T : Nat → Nat → Int) (p : Nat) (v : Int) (m : Nat) : Nat → Nat
  | 0 => m
  | k + 1 => ma_m2 T p v m k ||| (if T 6 (3 * k) = p ∧ T 6 (3 * k + 2) = v then 2 ^ (T 6 (3 * k + 1)).toNat else 0)
theorem ma_m1_b (f : Nat → Int) (v : Int) {h : Nat} (hh : h ≤ 9) : ma_m1 f v h < 512 := by
  induction h with
  | zero => simp [ma_m1]
  | succ h ih =>
    have h6 := Nat.pow_lt_pow_right (a := 2) (by decide) (show h < 9 by omega)
    simp only [ma_m1]
    refine Nat.or_lt_two_pow (n := 9) (ih (by omega)) ?_
    split
    · exact h6
    · decide
theorem ma_m2_b {T : Nat → Nat → Int} (w : ma_wT T) (p : Nat) (v : Int) {m : Nat} (hm : m < 512) {k : Nat} (hk : (k : Int) ≤ T 3 6) : ma_m2 T p v m k < 512 := by
  obtain ⟨f1, f2, f3, f4, f5, f6, f7, f8, f9, f10, f11, f12, f13, f14, f15, f16, f17, -⟩ := w
  induction k with
  | zero => exact hm
  | succ k ih =>
    have hl := f17 k (by omega)
    have h6 := Nat.pow_lt_pow_right (a := 2) (by decide) (show (T 6 (3 * k + 1)).toNat < 9 by omega)
    simp only [ma_m2]
    refine Nat.or_lt_two_pow (n := 9) (ih (by omega)) ?_
    split
    · exact h6
    · decide
theorem ma_oh_m {f : Nat → Int} {z h : Nat} : ma_oh f z h = true ↔ (z &&& ma_m1 f 10 h = ma_m1 f 10 h) ∧ (z &&& ma_m1 f 0 h = 0) := by
  induction h with
  | zero => simp [ma_oh, ma_m1]
  | succ h ih =>
    simp only [ma_oh, ma_m1]
    rw [Bool.and_eq_true, ih, b_all_or, b_no_or]
    by_cases c1 : f h = 10
    · rw [if_pos c1, if_neg (show ¬ f h = 0 by omega), b_all_p]
      by_cases d : z.testBit h = true
      · simp [d, c1]
      · simp [d, c1]
    · by_cases c2 : f h = 0
      · rw [if_neg c1, if_pos c2, b_no_p]
        by_cases d : z.testBit h = true
        · simp [d, c2]
        · have d' : z.testBit h = false := by simpa using d
          simp [d', c2]
      · rw [if_neg c1, if_neg c2]
        by_cases d : z.testBit h = true
        · simp [d, c2]
        · have d' : z.testBit h = false := by simpa using d
          simp [d', c1]
theorem ma_ol_m {T : Nat → Nat → Int} (w : ma_wT T) {p z a b k : Nat} (hk : (k : Int) ≤ T 3 6) : ((z &&& ma_m2 T p 1 a k = ma_m2 T p 1 a k) ∧ (z &&& ma_m2 T p 0 b k = 0)) ↔ ((z &&& a = a) ∧ (z &&& b = 0)) ∧ ma_ol T p z k = true := by
  obtain ⟨f1, f2, f3, f4, f5, f6, f7, f8, f9, f10, f11, f12, f13, f14, f15, f16, f17, -⟩ := w
  induction k with
  | zero => simp [ma_ol, ma_m2]
  | succ k ih =>
    have hl := f17 k (by omega)
    have ih' := ih (by omega)
    simp only [ma_ol, ma_m2]
    rw [b_all_or, b_no_or, Bool.and_eq_true]
    by_cases c : T 6 (3 * k) = p
    · rcases (by omega : T 6 (3 * k + 2) = 0 ∨ T 6 (3 * k + 2) = 1) with d | d
      · rw [if_neg (show ¬ (T 6 (3 * k) = p ∧ T 6 (3 * k + 2) = 1) by omega), if_pos (show T 6 (3 * k) = p ∧ T 6 (3 * k + 2) = 0 from ⟨c, d⟩), if_pos c, b_no_p]
        simp only [d]
        constructor
        · rintro ⟨⟨h1, -⟩, h2, h3⟩
          exact ⟨(ih'.1 ⟨h1, h2⟩).1, (ih'.1 ⟨h1, h2⟩).2, by simp [h3]⟩
        · rintro ⟨h1, h2, h3⟩
          have h4 := ih'.2 ⟨h1, h2⟩
          exact ⟨⟨h4.1, by simp⟩, h4.2, by simpa using h3⟩
      · rw [if_pos (show T 6 (3 * k) = p ∧ T 6 (3 * k + 2) = 1 from ⟨c, d⟩), if_neg (show ¬ (T 6 (3 * k) = p ∧ T 6 (3 * k + 2) = 0) by omega), if_pos c, b_all_p]
        simp only [d]
        constructor
        · rintro ⟨⟨h1, h3⟩, h2, -⟩
          exact ⟨(ih'.1 ⟨h1, h2⟩).1, (ih'.1 ⟨h1, h2⟩).2, by simp [h3]⟩
        · rintro ⟨h1, h2, h3⟩
          have h4 := ih'.2 ⟨h1, h2⟩
          exact ⟨⟨h4.1, by simpa using h3⟩, h4.2, by simp⟩
    · rw [if_neg (fun z => c z.1), if_neg (fun z => c z.1), if_neg c]
      constructor
      · rintro ⟨⟨h1, -⟩, h2, -⟩
        exact ⟨(ih'.1 ⟨h1, h2⟩).1, (ih'.1 ⟨h1, h2⟩).2, rfl⟩
      · rintro ⟨h1, h2, -⟩
        have h4 := ih'.2 ⟨h1, h2⟩
        exact ⟨⟨h4.1, by simp⟩, h4.2, by simp⟩
section Sets
variable {s : Nat → Int} {T : Nat → Nat → Int} {V : ma_V} {M : gs_M}
/-- may this set be the HOURS awake -/
def ma_cb (s : Nat → Int) (T : Nat → Nat → Int) (V : ma_V) (p : Nat) (n : Int32) (z : Nat) : Bool := decide (ma_bc (iI z) = n) && (ma_oh (ma_now s T V p) z (T 1 0).toNat && ma_ol T p z (T 3 6).toNat)
def ma_mu (s : Nat → Int) (T : Nat → Nat → Int) (V : ma_V) (p : Nat) : Nat := ma_m2 T p 1 (ma_m1 (ma_now s T V p) 10 (T 1 0).toNat) (T 3 6).toNat
def ma_nv (s : Nat → Int) (T : Nat → Nat → Int) (V : ma_V) (p : Nat) : Nat := ma_m2 T p 0 (ma_m1 (ma_now s T V p) 0 (T 1 0).toNat) (T 3 6).toNat
theorem ma_mu_b (w : ma_wT T) (s : Nat → Int) (V : ma_V) (p : Nat) : ma_mu s T V p < 512 ∧ ma_nv s T V p < 512 := by
  have f2 := w.2.1
  have f11 : 0 ≤ T 3 6 ∧ T 3 6 ≤ 12 := w.2.2.2.2.2.2.2.2.2.2.1
  exact ⟨ma_m2_b w p 1 (ma_m1_b _ _ (by omega)) (by omega), ma_m2_b w p 0 (ma_m1_b _ _ (by omega)) (by omega)⟩
theorem c_light (W : ma_W s T V) (C : ma_C s T V M) {p : Nat} (hp : (p : Int) < T 3 0) : ∃ M1, f_X1_light M (iI p) = some M1 ∧ iv_co M M1 ∧ M1 134 8 = iI (ma_mu s T V p : Nat) ∧ M1 134 9 = iI (ma_nv s T V p : Nat) ∧ ∀ h : Nat, (h : Int) < T 1 0 → M1 139 h = iI (ma_now s T V p h) := by
  have w := W.2.1
  obtain ⟨f1, f2, f3, f4, f5, f6, f7, f8, f9, f10, f11, f12, f13, f14, f15, f16, f17, -⟩ := W.2.1
  obtain ⟨r, e, N, rfl, g0, a1, a2, a3⟩ := ma_up0 (fun f i (k : gs_M) => l_X1_light_12 (iI p) f i k) (T 1 0).toNat
    (fun i k => iv_co M k ∧ k 134 8 = iI (ma_m1 (ma_now s T V p) 10 i : Nat) ∧ k 134 9 = iI (ma_m1 (ma_now s T V p) 0 i : Nat) ∧ ∀ j, j < i → k 139 j = iI (ma_now s T V p j))
    (fun r => ∃ N, r = (iI ((T 1 0).toNat : Nat), N) ∧ iv_co M N ∧ N 134 8 = iI (ma_m1 (ma_now s T V p) 10 (T 1 0).toNat : Nat) ∧ N 134 9 = iI (ma_m1 (ma_now s T V p) 0 (T 1 0).toNat : Nat) ∧ ∀ j, j < (T 1 0).toNat → N 139 j = iI (ma_now s T V p j)) (gs_up (gs_up M 134 8 (iI 0)) 134 9 (iI 0)) (by omega)
    ⟨(iv_co.rf.up _ rfl).up _ rfl, by rw [ma_cell_ne _ _ _ _ _ _ (by decide), gs_up_eq]; rfl, by rw [gs_up_eq]; rfl, fun j hj => by omega⟩
    (by
      rintro f i k hi ⟨g, b1, b2, b3⟩
      left
      have CN := C.co w g
      obtain ⟨N1, e1, g1⟩ := c_nw W CN (p := p) (h := i) hp (by omega)
      have bn := ma_now_b s T V p i
      have e2 : ∀ v, gs_wr N1 139 9 (iI i) v = some (gs_up N1 139 i v) := fun v => q_wrn i rfl (by omega) (by decide)
      have e3 : ∀ v, gs_rd (gs_up N1 139 i v) 139 9 (iI i) = some v := fun v => by rw [q_rdn i rfl (by omega) (by decide), gs_up_eq]
      have e4 : ∀ v u, gs_rd (gs_up (gs_up N1 139 i v) 134 8 u) 139 9 (iI i) = some v := fun v u => by rw [q_rdn i rfl (by omega) (by decide), ma_cell_ne _ _ _ _ _ _ (by omega), gs_up_eq]
      have e5 : ∀ v, gs_up N1 139 i v 134 8 = iI (ma_m1 (ma_now s T V p) 10 i : Nat) := fun v => by rw [ma_row_ne _ _ _ _ _ (by decide), g1 134 8 rfl, b1]
      have e6 : ∀ v u, gs_up (gs_up N1 139 i v) 134 8 u 134 9 = iI (ma_m1 (ma_now s T V p) 0 i : Nat) := fun v u => by rw [ma_cell_ne _ _ _ _ _ _ (by decide), ma_row_ne _ _ _ _ _ (by decide), g1 134 9 rfl, b2]
      have z : iI 0 = iI ((0 : Nat) : Int) := rfl
      have o1 : (if ma_now s T V p i = 10 then iI ((2 ^ i : Nat) : Int) else iI 0) = iI ((if ma_now s T V p i = 10 then 2 ^ i else 0 : Nat) : Int) := by split <;> rfl
      have o2 : (if ma_now s T V p i = 0 then iI ((2 ^ i : Nat) : Int) else iI 0) = iI ((if ma_now s T V p i = 0 then 2 ^ i else 0 : Nat) : Int) := by split <;> rfl
      refine ⟨gs_up (gs_up (gs_up N1 139 i (iI (ma_now s T V p i))) 134 8 (iI (ma_m1 (ma_now s T V p) 10 (i + 1) : Nat))) 134 9 (iI (ma_m1 (ma_now s T V p) 0 (i + 1) : Nat)), ?_, ((((g.tr g1.co).up _ rfl).up _ rfl).up _ rfl), ?_, ?_, fun j hj => ?_⟩
      · simp only [l_X1_light_12, ma_m1]
        rw [← b_or, ← b_or, ← o1, ← o2]
        rcases (by omega : ma_now s T V p i = 10 ∨ ma_now s T V p i = 0 ∨ (ma_now s T V p i ≠ 10 ∧ ma_now s T V p i ≠ 0)) with c | c | c <;> simp (disch := omega) only [qn0, qn1, qn2, qn3, qn4, qn5, qn6, qn7, qn8, qn9, qn10, qn11, qn12, qn13, qn14, qn15, qn16, qn17, qn18, qn24, qn30, qn31, qn32, qn33, qn36, qn38, qn40, qn41, qn42, qn43, qn45, qn47, qn48, qn49, qn50, qn51, qn52, qn53, qn57, qn58, qn59, qn60, qn61, qn62, qn63, qn91, qn93, qn97, qn99, qn100, qn103, qn104, qn112, qn113, qn115, qn116, qn118, qn119, qn121, qn124, qn173, qn177, qn240, qn255, qn295, qn352, qn353, qn533, qn999, qn1000, qn1023, qn6561, qn10000, qn20787, qn1000000, qn252645135, qn858993459, qn1000000000, qn1431655765, q_s1, q_s2, q_s3, q_s4, q_s5, iI_add, iI_sub, iI_mul, iI_neg, q_lt, q_le, q_eq, qz0, qz1, qz2, qz3, if_pos, if_neg, reduceIte, c_hours CN, e1, e2, e3, e4, e5, e6, b_sh]
      · rw [ma_cell_ne _ _ _ _ _ _ (by decide), gs_up_eq]
      · rw [gs_up_eq]
      · rw [ma_row_ne _ _ _ _ _ (by decide), ma_row_ne _ _ _ _ _ (by decide)]
        by_cases c : j = i
        · subst c
          rw [gs_up_eq]
        · rw [ma_cell_ne _ _ _ _ _ _ (by omega), g1 139 j rfl]
          exact b3 j (by omega))
    (by
      rintro f k ⟨g, b1, b2, b3⟩
      have CN := C.co w g
      refine ⟨_, ?_, k, rfl, g, b1, b2, b3⟩
      simp only [l_X1_light_12]
      simp (disch := omega) only [qn0, qn1, qn2, qn3, qn4, qn5, qn6, qn7, qn8, qn9, qn10, qn11, qn12, qn13, qn14, qn15, qn16, qn17, qn18, qn24, qn30, qn31, qn32, qn33, qn36, qn38, qn40, qn41, qn42, qn43, qn45, qn47, qn48, qn49, qn50, qn51, qn52, qn53, qn57, qn58, qn59, qn60, qn61, qn62, qn63, qn91, qn93, qn97, qn99, qn100, qn103, qn104, qn112, qn113, qn115, qn116, qn118, qn119, qn121, qn124, qn173, qn177, qn240, qn255, qn295, qn352, qn353, qn533, qn999, qn1000, qn1023, qn6561, qn10000, qn20787, qn1000000, qn252645135, qn858993459, qn1000000000, qn1431655765, q_s1, q_s2, q_s3, q_s4, q_s5, iI_add, iI_sub, iI_mul, iI_neg, q_lt, q_le, q_eq, qz0, qz1, qz2, qz3, if_pos, if_neg, reduceIte, c_hours CN])
  have e' : l_X1_light_12 (iI p) gs_FU (iI 0) (gs_up (gs_up M 134 8 (iI 0)) 134 9 (iI 0)) = some (iI ((T 1 0).toNat : Nat), N) := e
  have CN := C.co w g0
  obtain ⟨r, e2, N2, rfl, g2, c1, c2, c3⟩ := ma_up0 (fun f i (k : gs_M) => l_X1_light_98 (iI p) f i k) (T 3 6).toNat
    (fun i k => iv_co M k ∧ k 134 8 = iI (ma_m2 T p 1 (ma_m1 (ma_now s T V p) 10 (T 1 0).toNat) i : Nat) ∧ k 134 9 = iI (ma_m2 T p 0 (ma_m1 (ma_now s T V p) 0 (T 1 0).toNat) i : Nat) ∧ k 139 = N 139)
    (fun r => ∃ N2, r = (iI ((T 3 6).toNat : Nat), N2) ∧ iv_co M N2 ∧ N2 134 8 = iI (ma_mu s T V p : Nat) ∧ N2 134 9 = iI (ma_nv s T V p : Nat) ∧ N2 139 = N 139) N (by omega)
    ⟨g0, a1, a2, rfl⟩
    (by
      rintro f i k hi ⟨g, b1, b2, b3⟩
      left
      have CK := C.co w g
      have hl := f17 i (by omega)
      obtain ⟨l1, l2, l3⟩ := CK.lt (i := i) (by omega)
      obtain ⟨a, ha⟩ : ∃ a : Nat, T 6 (3 * i) = a := ⟨(T 6 (3 * i)).toNat, by omega⟩
      obtain ⟨h, hh⟩ : ∃ a : Nat, T 6 (3 * i + 1) = a := ⟨(T 6 (3 * i + 1)).toNat, by omega⟩
      have e1 : gs_rd k 135 12 (iI i) = some (iI a) := by rw [q_rdn i rfl (by omega) (by decide), l1, ha]
      have e2 : gs_rd k 136 12 (iI i) = some (iI h) := by rw [q_rdn i rfl (by omega) (by decide), l2, hh]
      have e3 : gs_rd k 137 12 (iI i) = some (iI (T 6 (3 * i + 2))) := by rw [q_rdn i rfl (by omega) (by decide), l3]
      have e4 : ∀ u, gs_rd (gs_up k 134 8 u) 136 12 (iI i) = some (iI h) := fun u => by rw [q_rdn i rfl (by omega) (by decide), ma_row_ne _ _ _ _ _ (by decide), l2, hh]
      have e5 : ∀ u, gs_rd (gs_up k 134 8 u) 137 12 (iI i) = some (iI (T 6 (3 * i + 2))) := fun u => by rw [q_rdn i rfl (by omega) (by decide), ma_row_ne _ _ _ _ _ (by decide), l3]
      have e6 : ∀ u, gs_up k 134 8 u 134 9 = iI (ma_m2 T p 0 (ma_m1 (ma_now s T V p) 0 (T 1 0).toNat) i : Nat) := fun u => by rw [ma_cell_ne _ _ _ _ _ _ (by decide), b2]
      have z : iI 0 = iI ((0 : Nat) : Int) := rfl
      have lp := CK.lp
      rcases (by omega : a ≠ p ∨ (a = p ∧ T 6 (3 * i + 2) = 0) ∨ (a = p ∧ T 6 (3 * i + 2) = 1)) with c | c | c
      · have z1 : ∀ v m, ma_m2 T p v m (i + 1) = ma_m2 T p v m i := fun v m => by
          simp only [ma_m2]
          rw [if_neg (by omega), Nat.or_zero]
        refine ⟨k, ?_, g, by rw [z1]; exact b1, by rw [z1]; exact b2, b3⟩
        simp only [l_X1_light_98]
        simp (disch := omega) only [qn0, qn1, qn2, qn3, qn4, qn5, qn6, qn7, qn8, qn9, qn10, qn11, qn12, qn13, qn14, qn15, qn16, qn17, qn18, qn24, qn30, qn31, qn32, qn33, qn36, qn38, qn40, qn41, qn42, qn43, qn45, qn47, qn48, qn49, qn50, qn51, qn52, qn53, qn57, qn58, qn59, qn60, qn61, qn62, qn63, qn91, qn93, qn97, qn99, qn100, qn103, qn104, qn112, qn113, qn115, qn116, qn118, qn119, qn121, qn124, qn173, qn177, qn240, qn255, qn295, qn352, qn353, qn533, qn999, qn1000, qn1023, qn6561, qn10000, qn20787, qn1000000, qn252645135, qn858993459, qn1000000000, qn1431655765, q_s1, q_s2, q_s3, q_s4, q_s5, iI_add, iI_sub, iI_mul, iI_neg, q_lt, q_le, q_eq, qz0, qz1, qz2, qz3, if_pos, if_neg, reduceIte, lp, e1]
      · have z1 : ∀ m, ma_m2 T p 1 m (i + 1) = ma_m2 T p 1 m i ||| 0 := fun m => by
          simp only [ma_m2]
          rw [if_neg (by omega)]
        have z2 : ∀ m, ma_m2 T p 0 m (i + 1) = ma_m2 T p 0 m i ||| 2 ^ h := fun m => by
          simp only [ma_m2]
          rw [if_pos ⟨by omega, c.2⟩, hh, Int.toNat_natCast]
        refine ⟨gs_up (gs_up k 134 8 (iI (ma_m2 T p 1 (ma_m1 (ma_now s T V p) 10 (T 1 0).toNat) (i + 1) : Nat))) 134 9 (iI (ma_m2 T p 0 (ma_m1 (ma_now s T V p) 0 (T 1 0).toNat) (i + 1) : Nat)), ?_, (g.up _ rfl).up _ rfl, by rw [ma_cell_ne _ _ _ _ _ _ (by decide), gs_up_eq], by rw [gs_up_eq], by rw [ma_row_ne _ _ _ _ _ (by decide), ma_row_ne _ _ _ _ _ (by decide), b3]⟩
        rw [z1, z2, ← b_or, ← b_or, ← z]
        simp only [l_X1_light_98]
        simp (disch := omega) only [qn0, qn1, qn2, qn3, qn4, qn5, qn6, qn7, qn8, qn9, qn10, qn11, qn12, qn13, qn14, qn15, qn16, qn17, qn18, qn24, qn30, qn31, qn32, qn33, qn36, qn38, qn40, qn41, qn42, qn43, qn45, qn47, qn48, qn49, qn50, qn51, qn52, qn53, qn57, qn58, qn59, qn60, qn61, qn62, qn63, qn91, qn93, qn97, qn99, qn100, qn103, qn104, qn112, qn113, qn115, qn116, qn118, qn119, qn121, qn124, qn173, qn177, qn240, qn255, qn295, qn352, qn353, qn533, qn999, qn1000, qn1023, qn6561, qn10000, qn20787, qn1000000, qn252645135, qn858993459, qn1000000000, qn1431655765, q_s1, q_s2, q_s3, q_s4, q_s5, iI_add, iI_sub, iI_mul, iI_neg, q_lt, q_le, q_eq, qz0, qz1, qz2, qz3, if_pos, if_neg, reduceIte, lp, e1, e2, e3, e4, e5, e6, b1, b_sh]
      · have z1 : ∀ m, ma_m2 T p 0 m (i + 1) = ma_m2 T p 0 m i ||| 0 := fun m => by
          simp only [ma_m2]
          rw [if_neg (by omega)]
        have z2 : ∀ m, ma_m2 T p 1 m (i + 1) = ma_m2 T p 1 m i ||| 2 ^ h := fun m => by
          simp only [ma_m2]
          rw [if_pos ⟨by omega, c.2⟩, hh, Int.toNat_natCast]
        refine ⟨gs_up (gs_up k 134 8 (iI (ma_m2 T p 1 (ma_m1 (ma_now s T V p) 10 (T 1 0).toNat) (i + 1) : Nat))) 134 9 (iI (ma_m2 T p 0 (ma_m1 (ma_now s T V p) 0 (T 1 0).toNat) (i + 1) : Nat)), ?_, (g.up _ rfl).up _ rfl, by rw [ma_cell_ne _ _ _ _ _ _ (by decide), gs_up_eq], by rw [gs_up_eq], by rw [ma_row_ne _ _ _ _ _ (by decide), ma_row_ne _ _ _ _ _ (by decide), b3]⟩
        rw [z1, z2, ← b_or, ← b_or, ← z]
        simp only [l_X1_light_98]
        simp (disch := omega) only [qn0, qn1, qn2, qn3, qn4, qn5, qn6, qn7, qn8, qn9, qn10, qn11, qn12, qn13, qn14, qn15, qn16, qn17, qn18, qn24, qn30, qn31, qn32, qn33, qn36, qn38, qn40, qn41, qn42, qn43, qn45, qn47, qn48, qn49, qn50, qn51, qn52, qn53, qn57, qn58, qn59, qn60, qn61, qn62, qn63, qn91, qn93, qn97, qn99, qn100, qn103, qn104, qn112, qn113, qn115, qn116, qn118, qn119, qn121, qn124, qn173, qn177, qn240, qn255, qn295, qn352, qn353, qn533, qn999, qn1000, qn1023, qn6561, qn10000, qn20787, qn1000000, qn252645135, qn858993459, qn1000000000, qn1431655765, q_s1, q_s2, q_s3, q_s4, q_s5, iI_add, iI_sub, iI_mul, iI_neg, q_lt, q_le, q_eq, qz0, qz1, qz2, qz3, if_pos, if_neg, reduceIte, lp, e1, e2, e3, e4, e5, e6, b1, b_sh])
    (by
      rintro f k ⟨g, b1, b2, b3⟩
      have CK := C.co w g
      refine ⟨_, ?_, k, rfl, g, b1, b2, b3⟩
      simp only [l_X1_light_98]
      simp (disch := omega) only [qn0, qn1, qn2, qn3, qn4, qn5, qn6, qn7, qn8, qn9, qn10, qn11, qn12, qn13, qn14, qn15, qn16, qn17, qn18, qn24, qn30, qn31, qn32, qn33, qn36, qn38, qn40, qn41, qn42, qn43, qn45, qn47, qn48, qn49, qn50, qn51, qn52, qn53, qn57, qn58, qn59, qn60, qn61, qn62, qn63, qn91, qn93, qn97, qn99, qn100, qn103, qn104, qn112, qn113, qn115, qn116, qn118, qn119, qn121, qn124, qn173, qn177, qn240, qn255, qn295, qn352, qn353, qn533, qn999, qn1000, qn1023, qn6561, qn10000, qn20787, qn1000000, qn252645135, qn858993459, qn1000000000, qn1431655765, q_s1, q_s2, q_s3, q_s4, q_s5, iI_add, iI_sub, iI_mul, iI_neg, q_lt, q_le, q_eq, qz0, qz1, qz2, qz3, if_pos, if_neg, reduceIte, CK.lp])
  have e2' : l_X1_light_98 (iI p) gs_FU (iI 0) N = some (iI ((T 3 6).toNat : Nat), N2) := e2
  refine ⟨N2, ?_, g2, c1, c2, fun h hh => by rw [c3]; exact a3 h (by omega)⟩
  unfold f_X1_light
  simp (disch := omega) only [qn0, qn1, qn2, qn3, qn4, qn5, qn6, qn7, qn8, qn9, qn10, qn11, qn12, qn13, qn14, qn15, qn16, qn17, qn18, qn24, qn30, qn31, qn32, qn33, qn36, qn38, qn40, qn41, qn42, qn43, qn45, qn47, qn48, qn49, qn50, qn51, qn52, qn53, qn57, qn58, qn59, qn60, qn61, qn62, qn63, qn91, qn93, qn97, qn99, qn100, qn103, qn104, qn112, qn113, qn115, qn116, qn118, qn119, qn121, qn124, qn173, qn177, qn240, qn255, qn295, qn352, qn353, qn533, qn999, qn1000, qn1023, qn6561, qn10000, qn20787, qn1000000, qn252645135, qn858993459, qn1000000000, qn1431655765, q_s1, q_s2, q_s3, q_s4, q_s5, iI_add, iI_sub, iI_mul, iI_neg, q_lt, q_le, q_eq, qz0, qz1, qz2, qz3, if_pos, if_neg, reduceIte, e', e2']
theorem c_burn (W : ma_W s T V) {p : Nat} (n : Int32) {z : Nat} (hz : z < 512) (b1 : M 134 8 = iI (ma_mu s T V p : Nat)) (b2 : M 134 9 = iI (ma_nv s T V p : Nat)) : f_X1_canBurn M (iI z) n = some (if ma_cb s T V p n z = true then iI 1 else iI 0) := by
  have w := W.2.1
  have f11 : 0 ≤ T 3 6 ∧ T 3 6 ≤ 12 := w.2.2.2.2.2.2.2.2.2.2.1
  obtain ⟨m1, m2⟩ := ma_mu_b w s V p
  have h1 : z &&& ma_mu s T V p ≤ ma_mu s T V p := Nat.and_le_right
  have h2 : z &&& ma_nv s T V p ≤ ma_nv s T V p := Nat.and_le_right
  have key := ma_ol_m w (p := p) (z := z) (a := ma_m1 (ma_now s T V p) 10 (T 1 0).toNat) (b := ma_m1 (ma_now s T V p) 0 (T 1 0).toNat) (k := (T 3 6).toNat) (by omega)
  rw [← ma_oh_m, show ma_m2 T p 1 (ma_m1 (ma_now s T V p) 10 (T 1 0).toNat) (T 3 6).toNat = ma_mu s T V p from rfl, show ma_m2 T p 0 (ma_m1 (ma_now s T V p) 0 (T 1 0).toNat) (T 3 6).toNat = ma_nv s T V p from rfl] at key
  have x1 : ∀ a : Nat, a ≤ ma_mu s T V p → ((iI a = iI (ma_mu s T V p : Nat)) = (a = ma_mu s T V p)) := fun a ha => by
    rw [q_eq (by omega)]
    exact propext ⟨fun h => by omega, fun h => by omega⟩
  have x2 : ∀ a : Nat, a ≤ ma_nv s T V p → ((iI a = iI 0) = (a = 0)) := fun a ha => by
    rw [q_eq (by omega)]
    exact propext ⟨fun h => by omega, fun h => by omega⟩
  unfold f_X1_canBurn
  rw [q_bc, gs_s1, b1, b2, b_and, b_and, qn0, qn1]
  simp only [x1 _ h1, x2 _ h2]
  unfold ma_cb
  by_cases d1 : ma_bc (iI z) = n
  · rw [if_pos d1, decide_eq_true d1, Bool.true_and]
    by_cases d2 : z &&& ma_mu s T V p = ma_mu s T V p ∧ z &&& ma_nv s T V p = 0
    · obtain ⟨h4, h5⟩ := key.1 d2
      rw [if_pos d2.1, if_pos d2.2, h4, h5, qz1, gs_s1]
      rfl
    · have hn : ¬ (ma_oh (ma_now s T V p) z (T 1 0).toNat && ma_ol T p z (T 3 6).toNat) = true := fun h => by
        rw [Bool.and_eq_true] at h
        exact d2 (key.2 h)
      rw [if_neg hn]
      by_cases d3 : z &&& ma_mu s T V p = ma_mu s T V p
      · rw [if_pos d3, if_neg (fun h => d2 ⟨d3, h⟩), qz0, gs_s1]
      · rw [if_neg d3, qz0, gs_s1]
  · rw [if_neg d1, decide_eq_false d1, Bool.false_and, qz0, gs_s1]
    rfl
theorem m_b69 (W : ma_W s T V) (D : ma_M s T V M) {p z : Nat} (hp : p < 8) (hz : z < 512) (x : Int32) : l_X12_canBurn_69 M (iI p) x (iI z) gs_FU (iI 0) = some (if ma_ol T p z (T 3 6).toNat = true then iI 1 else iI 0, M) := by
  obtain ⟨f1, f2, f3, f4, f5, f6, f7, f8, f9, f10, f11, f12, f13, f14, f15, f16, f17, -⟩ := W.2.1
  have lp := D.lp
  obtain ⟨r, e, hr⟩ := ma_up0 (fun f i (_ : Unit) => l_X12_canBurn_69 M (iI p) x (iI z) f i) (T 3 6).toNat
    (fun i _ => ma_ol T p z i = true) (fun r => r = (if ma_ol T p z (T 3 6).toNat = true then iI 1 else iI 0, M)) () (by omega) rfl
    (by
      intro f i _ hi hP
      have hl := f17 i (by omega)
      obtain ⟨l1, l2, l3⟩ := D.lt (i := i) (by omega)
      obtain ⟨a, ha⟩ : ∃ a : Nat, T 6 (3 * i) = a := ⟨(T 6 (3 * i)).toNat, by omega⟩
      obtain ⟨h, hh⟩ : ∃ a : Nat, T 6 (3 * i + 1) = a := ⟨(T 6 (3 * i + 1)).toNat, by omega⟩
      have e1 : gs_rd M 162 12 (iI i) = some (iI a) := by rw [q_rdn i rfl (by omega) (by decide), l1, ha]
      have e2 : gs_rd M 163 12 (iI i) = some (iI h) := by rw [q_rdn i rfl (by omega) (by decide), l2, hh]
      have e3 : gs_rd M 164 12 (iI i) = some (iI (T 6 (3 * i + 2))) := by rw [q_rdn i rfl (by omega) (by decide), l3]
      have e4 := m_has (z := z) (i := h) (by omega) (by omega)
      have hs : ma_ol T p z (i + 1) = (if T 6 (3 * i) = p then decide (z.testBit (T 6 (3 * i + 1)).toNat = decide (T 6 (3 * i + 2) = 1)) else true) := by
        show (ma_ol T p z i && _) = _
        rw [hP, Bool.true_and]
      rw [hh, Int.toNat_natCast] at hs
      simp only [l_X12_canBurn_69]
      rcases (by omega : a ≠ p ∨ a = p) with c | c
      · left
        rw [if_neg (by omega)] at hs
        refine ⟨(), ?_, hs⟩
        simp (disch := omega) only [qn0, qn1, qn2, qn3, qn4, qn5, qn6, qn7, qn8, qn9, qn10, qn11, qn12, qn13, qn14, qn15, qn16, qn17, qn18, qn24, qn30, qn31, qn32, qn33, qn36, qn38, qn40, qn41, qn42, qn43, qn45, qn47, qn48, qn49, qn50, qn51, qn52, qn53, qn57, qn58, qn59, qn60, qn61, qn62, qn63, qn91, qn93, qn97, qn99, qn100, qn103, qn104, qn112, qn113, qn115, qn116, qn118, qn119, qn121, qn124, qn173, qn177, qn240, qn255, qn295, qn352, qn353, qn533, qn999, qn1000, qn1023, qn6561, qn10000, qn20787, qn1000000, qn252645135, qn858993459, qn1000000000, qn1431655765, q_s1, q_s2, q_s3, q_s4, q_s5, iI_add, iI_sub, iI_mul, iI_neg, q_lt, q_le, q_eq, qz0, qz1, qz2, qz3, if_pos, if_neg, reduceIte, lp, e1]
      · rw [if_pos (by omega)] at hs
        cases hb : z.testBit h <;> rw [hb] at e4 hs <;> rcases (by omega : T 6 (3 * i + 2) = 0 ∨ T 6 (3 * i + 2) = 1) with d | d <;> rw [d] at e3 hs
        · left
          rw [if_neg (by decide)] at e4
          refine ⟨(), ?_, by rw [hs]; rfl⟩
          simp (disch := omega) only [qn0, qn1, qn2, qn3, qn4, qn5, qn6, qn7, qn8, qn9, qn10, qn11, qn12, qn13, qn14, qn15, qn16, qn17, qn18, qn24, qn30, qn31, qn32, qn33, qn36, qn38, qn40, qn41, qn42, qn43, qn45, qn47, qn48, qn49, qn50, qn51, qn52, qn53, qn57, qn58, qn59, qn60, qn61, qn62, qn63, qn91, qn93, qn97, qn99, qn100, qn103, qn104, qn112, qn113, qn115, qn116, qn118, qn119, qn121, qn124, qn173, qn177, qn240, qn255, qn295, qn352, qn353, qn533, qn999, qn1000, qn1023, qn6561, qn10000, qn20787, qn1000000, qn252645135, qn858993459, qn1000000000, qn1431655765, q_s1, q_s2, q_s3, q_s4, q_s5, iI_add, iI_sub, iI_mul, iI_neg, q_lt, q_le, q_eq, qz0, qz1, qz2, qz3, if_pos, if_neg, reduceIte, lp, e1, e2, e4, e3]
        · right
          rw [if_neg (by decide)] at e4
          refine ⟨_, ?_, rfl⟩
          rw [ma_ol_f (i := i + 1) (by rw [hs]; rfl) (by omega)]
          simp (disch := omega) only [qn0, qn1, qn2, qn3, qn4, qn5, qn6, qn7, qn8, qn9, qn10, qn11, qn12, qn13, qn14, qn15, qn16, qn17, qn18, qn24, qn30, qn31, qn32, qn33, qn36, qn38, qn40, qn41, qn42, qn43, qn45, qn47, qn48, qn49, qn50, qn51, qn52, qn53, qn57, qn58, qn59, qn60, qn61, qn62, qn63, qn91, qn93, qn97, qn99, qn100, qn103, qn104, qn112, qn113, qn115, qn116, qn118, qn119, qn121, qn124, qn173, qn177, qn240, qn255, qn295, qn352, qn353, qn533, qn999, qn1000, qn1023, qn6561, qn10000, qn20787, qn1000000, qn252645135, qn858993459, qn1000000000, qn1431655765, q_s1, q_s2, q_s3, q_s4, q_s5, iI_add, iI_sub, iI_mul, iI_neg, q_lt, q_le, q_eq, qz0, qz1, qz2, qz3, if_pos, if_neg, reduceIte, lp, e1, e2, e4, e3]
          rfl
        · right
          rw [if_pos rfl] at e4
          refine ⟨_, ?_, rfl⟩
          rw [ma_ol_f (i := i + 1) (by rw [hs]; rfl) (by omega)]
          simp (disch := omega) only [qn0, qn1, qn2, qn3, qn4, qn5, qn6, qn7, qn8, qn9, qn10, qn11, qn12, qn13, qn14, qn15, qn16, qn17, qn18, qn24, qn30, qn31, qn32, qn33, qn36, qn38, qn40, qn41, qn42, qn43, qn45, qn47, qn48, qn49, qn50, qn51, qn52, qn53, qn57, qn58, qn59, qn60, qn61, qn62, qn63, qn91, qn93, qn97, qn99, qn100, qn103, qn104, qn112, qn113, qn115, qn116, qn118, qn119, qn121, qn124, qn173, qn177, qn240, qn255, qn295, qn352, qn353, qn533, qn999, qn1000, qn1023, qn6561, qn10000, qn20787, qn1000000, qn252645135, qn858993459, qn1000000000, qn1431655765, q_s1, q_s2, q_s3, q_s4, q_s5, iI_add, iI_sub, iI_mul, iI_neg, q_lt, q_le, q_eq, qz0, qz1, qz2, qz3, if_pos, if_neg, reduceIte, lp, e1, e2, e4, e3]
          rfl
        · left
          rw [if_pos rfl] at e4
          refine ⟨(), ?_, by rw [hs]; rfl⟩
          simp (disch := omega) only [qn0, qn1, qn2, qn3, qn4, qn5, qn6, qn7, qn8, qn9, qn10, qn11, qn12, qn13, qn14, qn15, qn16, qn17, qn18, qn24, qn30, qn31, qn32, qn33, qn36, qn38, qn40, qn41, qn42, qn43, qn45, qn47, qn48, qn49, qn50, qn51, qn52, qn53, qn57, qn58, qn59, qn60, qn61, qn62, qn63, qn91, qn93, qn97, qn99, qn100, qn103, qn104, qn112, qn113, qn115, qn116, qn118, qn119, qn121, qn124, qn173, qn177, qn240, qn255, qn295, qn352, qn353, qn533, qn999, qn1000, qn1023, qn6561, qn10000, qn20787, qn1000000, qn252645135, qn858993459, qn1000000000, qn1431655765, q_s1, q_s2, q_s3, q_s4, q_s5, iI_add, iI_sub, iI_mul, iI_neg, q_lt, q_le, q_eq, qz0, qz1, qz2, qz3, if_pos, if_neg, reduceIte, lp, e1, e2, e4, e3])
    (by
      intro f _ hP
      refine ⟨_, ?_, rfl⟩
      rw [if_pos hP]
      simp only [l_X12_canBurn_69]
      simp (disch := omega) only [qn0, qn1, qn2, qn3, qn4, qn5, qn6, qn7, qn8, qn9, qn10, qn11, qn12, qn13, qn14, qn15, qn16, qn17, qn18, qn24, qn30, qn31, qn32, qn33, qn36, qn38, qn40, qn41, qn42, qn43, qn45, qn47, qn48, qn49, qn50, qn51, qn52, qn53, qn57, qn58, qn59, qn60, qn61, qn62, qn63, qn91, qn93, qn97, qn99, qn100, qn103, qn104, qn112, qn113, qn115, qn116, qn118, qn119, qn121, qn124, qn173, qn177, qn240, qn255, qn295, qn352, qn353, qn533, qn999, qn1000, qn1023, qn6561, qn10000, qn20787, qn1000000, qn252645135, qn858993459, qn1000000000, qn1431655765, q_s1, q_s2, q_s3, q_s4, q_s5, iI_add, iI_sub, iI_mul, iI_neg, q_lt, q_le, q_eq, qz0, qz1, qz2, qz3, if_pos, if_neg, reduceIte, lp])
  subst hr
  exact e
theorem m_b13 (W : ma_W s T V) (D : ma_M s T V M) {p z : Nat} (hp : (p : Int) < T 3 0) (hz : z < 512) (x : Int32) : ∃ M1, l_X12_canBurn_13 (iI p) x (iI z) gs_FU (iI 0) M = some (if (ma_oh (ma_now s T V p) z (T 1 0).toNat && ma_ol T p z (T 3 6).toNat) = true then iI 1 else iI 0, M1) ∧ iv_ag M M1 := by
  have w := W.2.1
  obtain ⟨f1, f2, -⟩ := W.2.1
  obtain ⟨r, e, M1, rfl, g⟩ := ma_up0 (fun f i (N : gs_M) => l_X12_canBurn_13 (iI p) x (iI z) f i N) (T 1 0).toNat
    (fun i N => ma_oh (ma_now s T V p) z i = true ∧ iv_ag M N) (fun r => ∃ M1, r = (if (ma_oh (ma_now s T V p) z (T 1 0).toNat && ma_ol T p z (T 3 6).toNat) = true then iI 1 else iI 0, M1) ∧ iv_ag M M1) M (by omega) ⟨rfl, iv_ag.rf⟩
    (by
      rintro f i N hi ⟨hP, hM⟩
      have DN := D.ag w hM
      obtain ⟨N1, e1, g1⟩ := m_nw W DN (p := p) (h := i) hp (by omega)
      have bn := ma_now_b s T V p i
      have e4 := m_has (z := z) (i := i) (by omega) (by omega)
      have hs : ma_oh (ma_now s T V p) z (i + 1) = (if z.testBit i = true then decide (ma_now s T V p i ≠ 0) else decide (ma_now s T V p i ≠ 10)) := by
        show (ma_oh (ma_now s T V p) z i && _) = _
        rw [hP, Bool.true_and]
      simp only [l_X12_canBurn_13]
      by_cases hb : z.testBit i = true
      · rw [if_pos hb] at e4 hs
        by_cases c : ma_now s T V p i = 0
        · right
          refine ⟨_, ?_, N1, rfl, hM.tr g1⟩
          rw [ma_oh_f (i := i + 1) (by rw [hs, c]; rfl) (by omega), Bool.false_and]
          simp (disch := omega) only [qn0, qn1, qn2, qn3, qn4, qn5, qn6, qn7, qn8, qn9, qn10, qn11, qn12, qn13, qn14, qn15, qn16, qn17, qn18, qn24, qn30, qn31, qn32, qn33, qn36, qn38, qn40, qn41, qn42, qn43, qn45, qn47, qn48, qn49, qn50, qn51, qn52, qn53, qn57, qn58, qn59, qn60, qn61, qn62, qn63, qn91, qn93, qn97, qn99, qn100, qn103, qn104, qn112, qn113, qn115, qn116, qn118, qn119, qn121, qn124, qn173, qn177, qn240, qn255, qn295, qn352, qn353, qn533, qn999, qn1000, qn1023, qn6561, qn10000, qn20787, qn1000000, qn252645135, qn858993459, qn1000000000, qn1431655765, q_s1, q_s2, q_s3, q_s4, q_s5, iI_add, iI_sub, iI_mul, iI_neg, q_lt, q_le, q_eq, qz0, qz1, qz2, qz3, if_pos, if_neg, reduceIte, m_rule0 DN, e4, e1]
          rfl
        · left
          refine ⟨N1, ?_, by rw [hs, decide_eq_true c], hM.tr g1⟩
          simp (disch := omega) only [qn0, qn1, qn2, qn3, qn4, qn5, qn6, qn7, qn8, qn9, qn10, qn11, qn12, qn13, qn14, qn15, qn16, qn17, qn18, qn24, qn30, qn31, qn32, qn33, qn36, qn38, qn40, qn41, qn42, qn43, qn45, qn47, qn48, qn49, qn50, qn51, qn52, qn53, qn57, qn58, qn59, qn60, qn61, qn62, qn63, qn91, qn93, qn97, qn99, qn100, qn103, qn104, qn112, qn113, qn115, qn116, qn118, qn119, qn121, qn124, qn173, qn177, qn240, qn255, qn295, qn352, qn353, qn533, qn999, qn1000, qn1023, qn6561, qn10000, qn20787, qn1000000, qn252645135, qn858993459, qn1000000000, qn1431655765, q_s1, q_s2, q_s3, q_s4, q_s5, iI_add, iI_sub, iI_mul, iI_neg, q_lt, q_le, q_eq, qz0, qz1, qz2, qz3, if_pos, if_neg, reduceIte, m_rule0 DN, e4, e1]
      · rw [if_neg hb] at e4 hs
        by_cases c : ma_now s T V p i = 10
        · right
          refine ⟨_, ?_, N1, rfl, hM.tr g1⟩
          rw [ma_oh_f (i := i + 1) (by rw [hs, c]; rfl) (by omega), Bool.false_and]
          simp (disch := omega) only [qn0, qn1, qn2, qn3, qn4, qn5, qn6, qn7, qn8, qn9, qn10, qn11, qn12, qn13, qn14, qn15, qn16, qn17, qn18, qn24, qn30, qn31, qn32, qn33, qn36, qn38, qn40, qn41, qn42, qn43, qn45, qn47, qn48, qn49, qn50, qn51, qn52, qn53, qn57, qn58, qn59, qn60, qn61, qn62, qn63, qn91, qn93, qn97, qn99, qn100, qn103, qn104, qn112, qn113, qn115, qn116, qn118, qn119, qn121, qn124, qn173, qn177, qn240, qn255, qn295, qn352, qn353, qn533, qn999, qn1000, qn1023, qn6561, qn10000, qn20787, qn1000000, qn252645135, qn858993459, qn1000000000, qn1431655765, q_s1, q_s2, q_s3, q_s4, q_s5, iI_add, iI_sub, iI_mul, iI_neg, q_lt, q_le, q_eq, qz0, qz1, qz2, qz3, if_pos, if_neg, reduceIte, m_rule0 DN, e4, e1]
          rfl
        · left
          refine ⟨N1, ?_, by rw [hs, decide_eq_true c], hM.tr g1⟩
          simp (disch := omega) only [qn0, qn1, qn2, qn3, qn4, qn5, qn6, qn7, qn8, qn9, qn10, qn11, qn12, qn13, qn14, qn15, qn16, qn17, qn18, qn24, qn30, qn31, qn32, qn33, qn36, qn38, qn40, qn41, qn42, qn43, qn45, qn47, qn48, qn49, qn50, qn51, qn52, qn53, qn57, qn58, qn59, qn60, qn61, qn62, qn63, qn91, qn93, qn97, qn99, qn100, qn103, qn104, qn112, qn113, qn115, qn116, qn118, qn119, qn121, qn124, qn173, qn177, qn240, qn255, qn295, qn352, qn353, qn533, qn999, qn1000, qn1023, qn6561, qn10000, qn20787, qn1000000, qn252645135, qn858993459, qn1000000000, qn1431655765, q_s1, q_s2, q_s3, q_s4, q_s5, iI_add, iI_sub, iI_mul, iI_neg, q_lt, q_le, q_eq, qz0, qz1, qz2, qz3, if_pos, if_neg, reduceIte, m_rule0 DN, e4, e1])
    (by
      rintro f N ⟨hP, hM⟩
      have DN := D.ag w hM
      have e2 := m_b69 W DN (p := p) (z := z) (by omega) hz x
      refine ⟨_, ?_, N, rfl, hM⟩
      rw [hP, Bool.true_and]
      simp only [l_X12_canBurn_13]
      simp (disch := omega) only [qn0, qn1, qn2, qn3, qn4, qn5, qn6, qn7, qn8, qn9, qn10, qn11, qn12, qn13, qn14, qn15, qn16, qn17, qn18, qn24, qn30, qn31, qn32, qn33, qn36, qn38, qn40, qn41, qn42, qn43, qn45, qn47, qn48, qn49, qn50, qn51, qn52, qn53, qn57, qn58, qn59, qn60, qn61, qn62, qn63, qn91, qn93, qn97, qn99, qn100, qn103, qn104, qn112, qn113, qn115, qn116, qn118, qn119, qn121, qn124, qn173, qn177, qn240, qn255, qn295, qn352, qn353, qn533, qn999, qn1000, qn1023, qn6561, qn10000, qn20787, qn1000000, qn252645135, qn858993459, qn1000000000, qn1431655765, q_s1, q_s2, q_s3, q_s4, q_s5, iI_add, iI_sub, iI_mul, iI_neg, q_lt, q_le, q_eq, qz0, qz1, qz2, qz3, if_pos, if_neg, reduceIte, m_rule0 DN, e2])
  exact ⟨M1, e, g⟩
theorem m_burn (W : ma_W s T V) (D : ma_M s T V M) {p z : Nat} (hp : (p : Int) < T 3 0) (hz : z < 512) (n : Int32) : ∃ M1, f_X12_canBurn M (iI p) n (iI z) = some (if ma_cb s T V p n z = true then iI 1 else iI 0, M1) ∧ iv_ag M M1 := by
  obtain ⟨M1, e, g⟩ := m_b13 W D hp hz n
  unfold f_X12_canBurn ma_cb
  rw [q_bc, gs_s1]
  by_cases d1 : ma_bc (iI z) = n
  · rw [if_pos d1, decide_eq_true d1, Bool.true_and]
    exact ⟨M1, e, g⟩
  · rw [if_neg d1, decide_eq_false d1, Bool.false_and]
    exact ⟨M, rfl, iv_ag.rf⟩
/-- the i-th of the sets, or how many -/
def ma_cd (ok : Nat → Bool) (z : Int) : Nat → Nat → Int → Int
  | 0, _, m => if z = -1 then m else -1
  | d + 1, i, m => if ok i = true then (if m = z then i else ma_cd ok z d (i + 1) (m + 1)) else ma_cd ok z d (i + 1) m
theorem ma_cd_s (ok : Nat → Bool) (z : Int) {n i : Nat} (hi : i < n) (m : Int) : ma_cd ok z (n - i) i m = if ok i = true then (if m = z then (i : Int) else ma_cd ok z (n - (i + 1)) (i + 1) (m + 1)) else ma_cd ok z (n - (i + 1)) (i + 1) m := by
  obtain ⟨d, e⟩ : ∃ d, n - i = d + 1 := ⟨n - i - 1, by omega⟩
  rw [e, show n - (i + 1) = d by omega]
  rfl
theorem ma_2H (w : ma_wT T) : 2 ^ (T 1 0).toNat ≤ 512 := by
  have f2 := w.2.1
  exact Nat.pow_le_pow_right (n := 2) (by decide) (show (T 1 0).toNat ≤ 9 by omega)
theorem q_2H (w : ma_wT T) : iI 1 <<< (iI (T 1 0) &&& iI 31) = iI ((2 ^ (T 1 0).toNat : Nat) : Int) := by
  have f2 := w.2.1
  have e : iI (T 1 0) = iI ((T 1 0).toNat : Nat) := by congr 1; omega
  rw [e, b_sh (by omega)]
theorem c_cd (W : ma_W s T V) (C : ma_C s T V M) {p : Nat} (n : Int32) {z : Int} (hz : -1 ≤ z ∧ z < 2147483648) (b1 : M 134 8 = iI (ma_mu s T V p : Nat)) (b2 : M 134 9 = iI (ma_nv s T V p : Nat)) (x : Int32) : l_X11_candle_39 M x n (iI z) gs_FU (iI 0) (iI 0) = some (iI (ma_cd (ma_cb s T V p n) z (2 ^ (T 1 0).toNat) 0 0), M) := by
  have h2 := ma_2H W.2.1
  have e0 := c_hours C
  have e1 := q_2H W.2.1
  obtain ⟨r, e, hr⟩ := ma_up0 (fun f i (q : Int32) => l_X11_candle_39 M x n (iI z) f q i) (2 ^ (T 1 0).toNat)
    (fun i q => ∃ m : Int, q = iI m ∧ 0 ≤ m ∧ m ≤ i ∧ ma_cd (ma_cb s T V p n) z (2 ^ (T 1 0).toNat - i) i m = ma_cd (ma_cb s T V p n) z (2 ^ (T 1 0).toNat) 0 0)
    (fun r => r = (iI (ma_cd (ma_cb s T V p n) z (2 ^ (T 1 0).toNat) 0 0), M)) (iI 0) (by omega) ⟨0, rfl, by omega, by omega, rfl⟩
    (by
      rintro f i q hi ⟨m, rfl, m1, m2, hP⟩
      have e2 := c_burn W n (p := p) (z := i) (by omega) b1 b2
      rw [ma_cd_s _ _ hi] at hP
      simp only [l_X11_candle_39]
      by_cases c : ma_cb s T V p n i = true
      · rw [if_pos c] at hP e2
        by_cases d : m = z
        · right
          rw [if_pos d] at hP
          refine ⟨(iI i, M), ?_, by rw [hP]⟩
          simp (disch := omega) only [qn0, qn1, qn2, qn3, qn4, qn5, qn6, qn7, qn8, qn9, qn10, qn11, qn12, qn13, qn14, qn15, qn16, qn17, qn18, qn24, qn30, qn31, qn32, qn33, qn36, qn38, qn40, qn41, qn42, qn43, qn45, qn47, qn48, qn49, qn50, qn51, qn52, qn53, qn57, qn58, qn59, qn60, qn61, qn62, qn63, qn91, qn93, qn97, qn99, qn100, qn103, qn104, qn112, qn113, qn115, qn116, qn118, qn119, qn121, qn124, qn173, qn177, qn240, qn255, qn295, qn352, qn353, qn533, qn999, qn1000, qn1023, qn6561, qn10000, qn20787, qn1000000, qn252645135, qn858993459, qn1000000000, qn1431655765, q_s1, q_s2, q_s3, q_s4, q_s5, iI_add, iI_sub, iI_mul, iI_neg, q_lt, q_le, q_eq, qz0, qz1, qz2, qz3, if_pos, if_neg, reduceIte, e0, e1, e2]
        · left
          rw [if_neg d] at hP
          refine ⟨iI (m + 1), ?_, m + 1, rfl, by omega, by omega, hP⟩
          simp (disch := omega) only [qn0, qn1, qn2, qn3, qn4, qn5, qn6, qn7, qn8, qn9, qn10, qn11, qn12, qn13, qn14, qn15, qn16, qn17, qn18, qn24, qn30, qn31, qn32, qn33, qn36, qn38, qn40, qn41, qn42, qn43, qn45, qn47, qn48, qn49, qn50, qn51, qn52, qn53, qn57, qn58, qn59, qn60, qn61, qn62, qn63, qn91, qn93, qn97, qn99, qn100, qn103, qn104, qn112, qn113, qn115, qn116, qn118, qn119, qn121, qn124, qn173, qn177, qn240, qn255, qn295, qn352, qn353, qn533, qn999, qn1000, qn1023, qn6561, qn10000, qn20787, qn1000000, qn252645135, qn858993459, qn1000000000, qn1431655765, q_s1, q_s2, q_s3, q_s4, q_s5, iI_add, iI_sub, iI_mul, iI_neg, q_lt, q_le, q_eq, qz0, qz1, qz2, qz3, if_pos, if_neg, reduceIte, e0, e1, e2]
      · left
        rw [if_neg c] at hP e2
        refine ⟨iI m, ?_, m, rfl, by omega, by omega, hP⟩
        simp (disch := omega) only [qn0, qn1, qn2, qn3, qn4, qn5, qn6, qn7, qn8, qn9, qn10, qn11, qn12, qn13, qn14, qn15, qn16, qn17, qn18, qn24, qn30, qn31, qn32, qn33, qn36, qn38, qn40, qn41, qn42, qn43, qn45, qn47, qn48, qn49, qn50, qn51, qn52, qn53, qn57, qn58, qn59, qn60, qn61, qn62, qn63, qn91, qn93, qn97, qn99, qn100, qn103, qn104, qn112, qn113, qn115, qn116, qn118, qn119, qn121, qn124, qn173, qn177, qn240, qn255, qn295, qn352, qn353, qn533, qn999, qn1000, qn1023, qn6561, qn10000, qn20787, qn1000000, qn252645135, qn858993459, qn1000000000, qn1431655765, q_s1, q_s2, q_s3, q_s4, q_s5, iI_add, iI_sub, iI_mul, iI_neg, q_lt, q_le, q_eq, qz0, qz1, qz2, qz3, if_pos, if_neg, reduceIte, e0, e1, e2])
    (by
      rintro f q ⟨m, rfl, m1, m2, hP⟩
      rw [Nat.sub_self] at hP
      refine ⟨_, ?_, rfl⟩
      rw [← hP]
      simp only [l_X11_candle_39, ma_cd]
      rcases (by omega : z = -1 ∨ z ≠ -1) with c | c <;> simp (disch := omega) only [qn0, qn1, qn2, qn3, qn4, qn5, qn6, qn7, qn8, qn9, qn10, qn11, qn12, qn13, qn14, qn15, qn16, qn17, qn18, qn24, qn30, qn31, qn32, qn33, qn36, qn38, qn40, qn41, qn42, qn43, qn45, qn47, qn48, qn49, qn50, qn51, qn52, qn53, qn57, qn58, qn59, qn60, qn61, qn62, qn63, qn91, qn93, qn97, qn99, qn100, qn103, qn104, qn112, qn113, qn115, qn116, qn118, qn119, qn121, qn124, qn173, qn177, qn240, qn255, qn295, qn352, qn353, qn533, qn999, qn1000, qn1023, qn6561, qn10000, qn20787, qn1000000, qn252645135, qn858993459, qn1000000000, qn1431655765, q_s1, q_s2, q_s3, q_s4, q_s5, iI_add, iI_sub, iI_mul, iI_neg, q_lt, q_le, q_eq, qz0, qz1, qz2, qz3, if_pos, if_neg, reduceIte, e0, e1])
  subst hr
  exact e
theorem m_cd (W : ma_W s T V) (D : ma_M s T V M) {p : Nat} (hp : (p : Int) < T 3 0) (n : Int32) {z : Int} (hz : -1 ≤ z ∧ z < 2147483648) : ∃ M1, l_X12_candle_27 (iI p) n (iI z) gs_FU (iI 0) (iI 0) M = some (iI (ma_cd (ma_cb s T V p n) z (2 ^ (T 1 0).toNat) 0 0), M1) ∧ iv_ag M M1 := by
  have w := W.2.1
  have h2 := ma_2H W.2.1
  have e1 := q_2H W.2.1
  obtain ⟨r, e, M1, rfl, g⟩ := ma_up0 (fun f i (q : Int32 × gs_M) => l_X12_candle_27 (iI p) n (iI z) f q.1 i q.2) (2 ^ (T 1 0).toNat)
    (fun i q => (∃ m : Int, q.1 = iI m ∧ 0 ≤ m ∧ m ≤ i ∧ ma_cd (ma_cb s T V p n) z (2 ^ (T 1 0).toNat - i) i m = ma_cd (ma_cb s T V p n) z (2 ^ (T 1 0).toNat) 0 0) ∧ iv_ag M q.2)
    (fun r => ∃ M1, r = (iI (ma_cd (ma_cb s T V p n) z (2 ^ (T 1 0).toNat) 0 0), M1) ∧ iv_ag M M1) (iI 0, M) (by omega) ⟨⟨0, rfl, by omega, by omega, rfl⟩, iv_ag.rf⟩
    (by
      rintro f i ⟨q, N⟩ hi ⟨⟨m, hq, m1, m2, hP⟩, hM⟩
      simp only at hq hM
      subst hq
      have DN := D.ag w hM
      have e0 := m_rule0 DN
      obtain ⟨N1, e2, g1⟩ := m_burn W DN (p := p) (z := i) hp (by omega) n
      rw [ma_cd_s _ _ hi] at hP
      simp only [l_X12_candle_27]
      by_cases c : ma_cb s T V p n i = true
      · rw [if_pos c] at hP e2
        by_cases d : m = z
        · right
          rw [if_pos d] at hP
          refine ⟨(iI i, N1), ?_, N1, by rw [hP], hM.tr g1⟩
          simp (disch := omega) only [qn0, qn1, qn2, qn3, qn4, qn5, qn6, qn7, qn8, qn9, qn10, qn11, qn12, qn13, qn14, qn15, qn16, qn17, qn18, qn24, qn30, qn31, qn32, qn33, qn36, qn38, qn40, qn41, qn42, qn43, qn45, qn47, qn48, qn49, qn50, qn51, qn52, qn53, qn57, qn58, qn59, qn60, qn61, qn62, qn63, qn91, qn93, qn97, qn99, qn100, qn103, qn104, qn112, qn113, qn115, qn116, qn118, qn119, qn121, qn124, qn173, qn177, qn240, qn255, qn295, qn352, qn353, qn533, qn999, qn1000, qn1023, qn6561, qn10000, qn20787, qn1000000, qn252645135, qn858993459, qn1000000000, qn1431655765, q_s1, q_s2, q_s3, q_s4, q_s5, iI_add, iI_sub, iI_mul, iI_neg, q_lt, q_le, q_eq, qz0, qz1, qz2, qz3, if_pos, if_neg, reduceIte, e0, e1, e2]
        · left
          rw [if_neg d] at hP
          refine ⟨(iI (m + 1), N1), ?_, ⟨m + 1, rfl, by omega, by omega, hP⟩, hM.tr g1⟩
          simp (disch := omega) only [qn0, qn1, qn2, qn3, qn4, qn5, qn6, qn7, qn8, qn9, qn10, qn11, qn12, qn13, qn14, qn15, qn16, qn17, qn18, qn24, qn30, qn31, qn32, qn33, qn36, qn38, qn40, qn41, qn42, qn43, qn45, qn47, qn48, qn49, qn50, qn51, qn52, qn53, qn57, qn58, qn59, qn60, qn61, qn62, qn63, qn91, qn93, qn97, qn99, qn100, qn103, qn104, qn112, qn113, qn115, qn116, qn118, qn119, qn121, qn124, qn173, qn177, qn240, qn255, qn295, qn352, qn353, qn533, qn999, qn1000, qn1023, qn6561, qn10000, qn20787, qn1000000, qn252645135, qn858993459, qn1000000000, qn1431655765, q_s1, q_s2, q_s3, q_s4, q_s5, iI_add, iI_sub, iI_mul, iI_neg, q_lt, q_le, q_eq, qz0, qz1, qz2, qz3, if_pos, if_neg, reduceIte, e0, e1, e2]
      · left
        rw [if_neg c] at hP e2
        refine ⟨(iI m, N1), ?_, ⟨m, rfl, by omega, by omega, hP⟩, hM.tr g1⟩
        simp (disch := omega) only [qn0, qn1, qn2, qn3, qn4, qn5, qn6, qn7, qn8, qn9, qn10, qn11, qn12, qn13, qn14, qn15, qn16, qn17, qn18, qn24, qn30, qn31, qn32, qn33, qn36, qn38, qn40, qn41, qn42, qn43, qn45, qn47, qn48, qn49, qn50, qn51, qn52, qn53, qn57, qn58, qn59, qn60, qn61, qn62, qn63, qn91, qn93, qn97, qn99, qn100, qn103, qn104, qn112, qn113, qn115, qn116, qn118, qn119, qn121, qn124, qn173, qn177, qn240, qn255, qn295, qn352, qn353, qn533, qn999, qn1000, qn1023, qn6561, qn10000, qn20787, qn1000000, qn252645135, qn858993459, qn1000000000, qn1431655765, q_s1, q_s2, q_s3, q_s4, q_s5, iI_add, iI_sub, iI_mul, iI_neg, q_lt, q_le, q_eq, qz0, qz1, qz2, qz3, if_pos, if_neg, reduceIte, e0, e1, e2])
    (by
      rintro f ⟨q, N⟩ ⟨⟨m, hq, m1, m2, hP⟩, hM⟩
      simp only at hq hM
      subst hq
      have DN := D.ag w hM
      have e0 := m_rule0 DN
      rw [Nat.sub_self] at hP
      refine ⟨_, ?_, N, rfl, hM⟩
      rw [← hP]
      simp only [l_X12_candle_27, ma_cd]
      rcases (by omega : z = -1 ∨ z ≠ -1) with c | c <;> simp (disch := omega) only [qn0, qn1, qn2, qn3, qn4, qn5, qn6, qn7, qn8, qn9, qn10, qn11, qn12, qn13, qn14, qn15, qn16, qn17, qn18, qn24, qn30, qn31, qn32, qn33, qn36, qn38, qn40, qn41, qn42, qn43, qn45, qn47, qn48, qn49, qn50, qn51, qn52, qn53, qn57, qn58, qn59, qn60, qn61, qn62, qn63, qn91, qn93, qn97, qn99, qn100, qn103, qn104, qn112, qn113, qn115, qn116, qn118, qn119, qn121, qn124, qn173, qn177, qn240, qn255, qn295, qn352, qn353, qn533, qn999, qn1000, qn1023, qn6561, qn10000, qn20787, qn1000000, qn252645135, qn858993459, qn1000000000, qn1431655765, q_s1, q_s2, q_s3, q_s4, q_s5, iI_add, iI_sub, iI_mul, iI_neg, q_lt, q_le, q_eq, qz0, qz1, qz2, qz3, if_pos, if_neg, reduceIte, e0, e1])
  exact ⟨M1, e, g⟩
/-- odds of a set -/
def ma_op (f : Nat → Int) (z : Nat) : Nat → Int
  | 0 => 1
  | h + 1 => ma_op f z h * (if z.testBit h = true then f h else 10 - f h)
theorem ma_op_b {f : Nat → Int} (hf : ∀ h, 0 ≤ f h ∧ f h ≤ 10) (z h : Nat) : 0 ≤ ma_op f z h ∧ ma_op f z h ≤ 10 ^ h := by
  induction h with
  | zero => simp [ma_op]
  | succ h ih =>
    have b := hf h
    simp only [ma_op]
    rw [Int.pow_succ]
    split
    · have h2 := ma_mul10 ih.1 b
      omega
    · have h2 := ma_mul10 (c := 10 - f h) ih.1 (by omega)
      omega
def ma_od (s : Nat → Int) (T : Nat → Nat → Int) (V : ma_V) (p z : Nat) : Int := ma_op (ma_now s T V p) z (T 1 0).toNat
theorem ma_od_b (w : ma_wT T) (s : Nat → Int) (V : ma_V) (p z : Nat) : 0 ≤ ma_od s T V p z ∧ ma_od s T V p z ≤ 1000000000 := by
  have f2 := w.2.1
  have h := ma_op_b (ma_now_b s T V p) z (T 1 0).toNat
  have h3 : ∀ k : Nat, k < 10 → (10 : Int) ^ k ≤ 1000000000 := by decide
  have h2 := h3 (T 1 0).toNat (by omega)
  unfold ma_od
  omega
theorem c_od (W : ma_W s T V) (C : ma_C s T V M) {p z : Nat} (hz : z < 512) (hr : ∀ h : Nat, (h : Int) < T 1 0 → M 139 h = iI (ma_now s T V p h)) : f_X1_oddsOf M (iI z) = some (jI (ma_od s T V p z)) := by
  have f2 := W.2.1.2.1
  have e0 := c_hours C
  obtain ⟨r, e, hr'⟩ := ma_up0 (fun f i (q : Int64) => l_X1_oddsOf_5 M (iI z) f q i) (T 1 0).toNat
    (fun i q => q = jI (ma_op (ma_now s T V p) z i)) (fun r => r = (jI (ma_od s T V p z), iI ((T 1 0).toNat : Nat))) (jI 1) (by omega) rfl
    (by
      rintro f i q hi rfl
      left
      have bn := ma_now_b s T V p i
      have e1 := b_tb (z := z) (i := i) (by omega) (by omega)
      have e2 : gs_rd M 139 9 (iI i) = some (iI (ma_now s T V p i)) := by rw [q_rdn i rfl (by omega) (by decide), hr i (by omega)]
      refine ⟨_, ?_, rfl⟩
      simp only [l_X1_oddsOf_5, ma_op]
      by_cases c : z.testBit i = true
      · rw [if_pos c] at e1 ⊢
        simp (disch := omega) only [qn0, qn1, qn2, qn3, qn4, qn5, qn6, qn7, qn8, qn9, qn10, qn11, qn12, qn13, qn14, qn15, qn16, qn17, qn18, qn24, qn30, qn31, qn32, qn33, qn36, qn38, qn40, qn41, qn42, qn43, qn45, qn47, qn48, qn49, qn50, qn51, qn52, qn53, qn57, qn58, qn59, qn60, qn61, qn62, qn63, qn91, qn93, qn97, qn99, qn100, qn103, qn104, qn112, qn113, qn115, qn116, qn118, qn119, qn121, qn124, qn173, qn177, qn240, qn255, qn295, qn352, qn353, qn533, qn999, qn1000, qn1023, qn6561, qn10000, qn20787, qn1000000, qn252645135, qn858993459, qn1000000000, qn1431655765, qj0, qj1, qj2, qj4, qj7, qj8, qj9, qj10, qj30, qj100, qj1000, qj1000000, qj1000000000, qj1442695040888963407, qj6364136223846793005, q_s1, q_s2, q_s3, q_s4, q_s5, iI_add, iI_sub, iI_mul, iI_neg, q_lt, q_le, q_eq, jI_add, jI_sub, jI_mul, jI_neg, jI_of, jI_to, j_le0, j_ge0, j_lt0, j_gt0, j_eq0, q_dvl, qz0, qz1, qz2, qz3, if_pos, if_neg, reduceIte, e0, e1, e2]
      · rw [if_neg c] at e1 ⊢
        simp (disch := omega) only [qn0, qn1, qn2, qn3, qn4, qn5, qn6, qn7, qn8, qn9, qn10, qn11, qn12, qn13, qn14, qn15, qn16, qn17, qn18, qn24, qn30, qn31, qn32, qn33, qn36, qn38, qn40, qn41, qn42, qn43, qn45, qn47, qn48, qn49, qn50, qn51, qn52, qn53, qn57, qn58, qn59, qn60, qn61, qn62, qn63, qn91, qn93, qn97, qn99, qn100, qn103, qn104, qn112, qn113, qn115, qn116, qn118, qn119, qn121, qn124, qn173, qn177, qn240, qn255, qn295, qn352, qn353, qn533, qn999, qn1000, qn1023, qn6561, qn10000, qn20787, qn1000000, qn252645135, qn858993459, qn1000000000, qn1431655765, qj0, qj1, qj2, qj4, qj7, qj8, qj9, qj10, qj30, qj100, qj1000, qj1000000, qj1000000000, qj1442695040888963407, qj6364136223846793005, q_s1, q_s2, q_s3, q_s4, q_s5, iI_add, iI_sub, iI_mul, iI_neg, q_lt, q_le, q_eq, jI_add, jI_sub, jI_mul, jI_neg, jI_of, jI_to, j_le0, j_ge0, j_lt0, j_gt0, j_eq0, q_dvl, qz0, qz1, qz2, qz3, if_pos, if_neg, reduceIte, e0, e1, e2])
    (by
      rintro f q rfl
      refine ⟨_, ?_, rfl⟩
      simp only [l_X1_oddsOf_5]
      simp (disch := omega) only [qn0, qn1, qn2, qn3, qn4, qn5, qn6, qn7, qn8, qn9, qn10, qn11, qn12, qn13, qn14, qn15, qn16, qn17, qn18, qn24, qn30, qn31, qn32, qn33, qn36, qn38, qn40, qn41, qn42, qn43, qn45, qn47, qn48, qn49, qn50, qn51, qn52, qn53, qn57, qn58, qn59, qn60, qn61, qn62, qn63, qn91, qn93, qn97, qn99, qn100, qn103, qn104, qn112, qn113, qn115, qn116, qn118, qn119, qn121, qn124, qn173, qn177, qn240, qn255, qn295, qn352, qn353, qn533, qn999, qn1000, qn1023, qn6561, qn10000, qn20787, qn1000000, qn252645135, qn858993459, qn1000000000, qn1431655765, qj0, qj1, qj2, qj4, qj7, qj8, qj9, qj10, qj30, qj100, qj1000, qj1000000, qj1000000000, qj1442695040888963407, qj6364136223846793005, q_s1, q_s2, q_s3, q_s4, q_s5, iI_add, iI_sub, iI_mul, iI_neg, q_lt, q_le, q_eq, jI_add, jI_sub, jI_mul, jI_neg, jI_of, jI_to, j_le0, j_ge0, j_lt0, j_gt0, j_eq0, q_dvl, qz0, qz1, qz2, qz3, if_pos, if_neg, reduceIte, e0]
      rfl)
  subst hr'
  have e' : l_X1_oddsOf_5 M (iI z) gs_FU (jI 1) (iI 0) = some (jI (ma_od s T V p z), iI ((T 1 0).toNat : Nat)) := e
  unfold f_X1_oddsOf
  simp (disch := omega) only [qn0, qn1, qn2, qn3, qn4, qn5, qn6, qn7, qn8, qn9, qn10, qn11, qn12, qn13, qn14, qn15, qn16, qn17, qn18, qn24, qn30, qn31, qn32, qn33, qn36, qn38, qn40, qn41, qn42, qn43, qn45, qn47, qn48, qn49, qn50, qn51, qn52, qn53, qn57, qn58, qn59, qn60, qn61, qn62, qn63, qn91, qn93, qn97, qn99, qn100, qn103, qn104, qn112, qn113, qn115, qn116, qn118, qn119, qn121, qn124, qn173, qn177, qn240, qn255, qn295, qn352, qn353, qn533, qn999, qn1000, qn1023, qn6561, qn10000, qn20787, qn1000000, qn252645135, qn858993459, qn1000000000, qn1431655765, qj0, qj1, qj2, qj4, qj7, qj8, qj9, qj10, qj30, qj100, qj1000, qj1000000, qj1000000000, qj1442695040888963407, qj6364136223846793005, q_s1, q_s2, q_s3, q_s4, q_s5, iI_add, iI_sub, iI_mul, iI_neg, q_lt, q_le, q_eq, jI_add, jI_sub, jI_mul, jI_neg, jI_of, jI_to, j_le0, j_ge0, j_lt0, j_gt0, j_eq0, q_dvl, qz0, qz1, qz2, qz3, if_pos, if_neg, reduceIte, e']
theorem m_od (W : ma_W s T V) (D : ma_M s T V M) {p z : Nat} (hp : (p : Int) < T 3 0) (hz : z < 512) (x2 x3 : Int32) (x4 : Int64) : ∃ M1, l_X12_likeliest_57 (iI p) x2 x3 x4 (iI z) gs_FU (jI 1) (iI 0) M = some (jI (ma_od s T V p z), iI ((T 1 0).toNat : Nat), M1) ∧ iv_ag M M1 := by
  have w := W.2.1
  have f2 := W.2.1.2.1
  obtain ⟨r, e, M1, rfl, g⟩ := ma_up0 (fun f i (q : Int64 × gs_M) => l_X12_likeliest_57 (iI p) x2 x3 x4 (iI z) f q.1 i q.2) (T 1 0).toNat
    (fun i q => q.1 = jI (ma_op (ma_now s T V p) z i) ∧ iv_ag M q.2) (fun r => ∃ M1, r = (jI (ma_od s T V p z), iI ((T 1 0).toNat : Nat), M1) ∧ iv_ag M M1) (jI 1, M) (by omega) ⟨rfl, iv_ag.rf⟩
    (by
      rintro f i ⟨q, N⟩ hi ⟨hq, hM⟩
      simp only at hq hM
      subst hq
      left
      have DN := D.ag w hM
      have e0 := m_rule0 DN
      obtain ⟨N1, e2, g1⟩ := m_nw W DN (p := p) (h := i) hp (by omega)
      have bn := ma_now_b s T V p i
      have e1 := m_has (z := z) (i := i) (by omega) (by omega)
      refine ⟨(jI (ma_op (ma_now s T V p) z (i + 1)), N1), ?_, rfl, hM.tr g1⟩
      simp only [l_X12_likeliest_57, ma_op]
      by_cases c : z.testBit i = true
      · rw [if_pos c] at e1 ⊢
        simp (disch := omega) only [qn0, qn1, qn2, qn3, qn4, qn5, qn6, qn7, qn8, qn9, qn10, qn11, qn12, qn13, qn14, qn15, qn16, qn17, qn18, qn24, qn30, qn31, qn32, qn33, qn36, qn38, qn40, qn41, qn42, qn43, qn45, qn47, qn48, qn49, qn50, qn51, qn52, qn53, qn57, qn58, qn59, qn60, qn61, qn62, qn63, qn91, qn93, qn97, qn99, qn100, qn103, qn104, qn112, qn113, qn115, qn116, qn118, qn119, qn121, qn124, qn173, qn177, qn240, qn255, qn295, qn352, qn353, qn533, qn999, qn1000, qn1023, qn6561, qn10000, qn20787, qn1000000, qn252645135, qn858993459, qn1000000000, qn1431655765, qj0, qj1, qj2, qj4, qj7, qj8, qj9, qj10, qj30, qj100, qj1000, qj1000000, qj1000000000, qj1442695040888963407, qj6364136223846793005, q_s1, q_s2, q_s3, q_s4, q_s5, iI_add, iI_sub, iI_mul, iI_neg, q_lt, q_le, q_eq, jI_add, jI_sub, jI_mul, jI_neg, jI_of, jI_to, j_le0, j_ge0, j_lt0, j_gt0, j_eq0, q_dvl, qz0, qz1, qz2, qz3, if_pos, if_neg, reduceIte, e0, e1, e2]
      · rw [if_neg c] at e1 ⊢
        simp (disch := omega) only [qn0, qn1, qn2, qn3, qn4, qn5, qn6, qn7, qn8, qn9, qn10, qn11, qn12, qn13, qn14, qn15, qn16, qn17, qn18, qn24, qn30, qn31, qn32, qn33, qn36, qn38, qn40, qn41, qn42, qn43, qn45, qn47, qn48, qn49, qn50, qn51, qn52, qn53, qn57, qn58, qn59, qn60, qn61, qn62, qn63, qn91, qn93, qn97, qn99, qn100, qn103, qn104, qn112, qn113, qn115, qn116, qn118, qn119, qn121, qn124, qn173, qn177, qn240, qn255, qn295, qn352, qn353, qn533, qn999, qn1000, qn1023, qn6561, qn10000, qn20787, qn1000000, qn252645135, qn858993459, qn1000000000, qn1431655765, qj0, qj1, qj2, qj4, qj7, qj8, qj9, qj10, qj30, qj100, qj1000, qj1000000, qj1000000000, qj1442695040888963407, qj6364136223846793005, q_s1, q_s2, q_s3, q_s4, q_s5, iI_add, iI_sub, iI_mul, iI_neg, q_lt, q_le, q_eq, jI_add, jI_sub, jI_mul, jI_neg, jI_of, jI_to, j_le0, j_ge0, j_lt0, j_gt0, j_eq0, q_dvl, qz0, qz1, qz2, qz3, if_pos, if_neg, reduceIte, e0, e1, e2])
    (by
      rintro f ⟨q, N⟩ ⟨hq, hM⟩
      simp only at hq hM
      subst hq
      have DN := D.ag w hM
      have e0 := m_rule0 DN
      refine ⟨_, ?_, N, rfl, hM⟩
      simp only [l_X12_likeliest_57]
      simp (disch := omega) only [qn0, qn1, qn2, qn3, qn4, qn5, qn6, qn7, qn8, qn9, qn10, qn11, qn12, qn13, qn14, qn15, qn16, qn17, qn18, qn24, qn30, qn31, qn32, qn33, qn36, qn38, qn40, qn41, qn42, qn43, qn45, qn47, qn48, qn49, qn50, qn51, qn52, qn53, qn57, qn58, qn59, qn60, qn61, qn62, qn63, qn91, qn93, qn97, qn99, qn100, qn103, qn104, qn112, qn113, qn115, qn116, qn118, qn119, qn121, qn124, qn173, qn177, qn240, qn255, qn295, qn352, qn353, qn533, qn999, qn1000, qn1023, qn6561, qn10000, qn20787, qn1000000, qn252645135, qn858993459, qn1000000000, qn1431655765, qj0, qj1, qj2, qj4, qj7, qj8, qj9, qj10, qj30, qj100, qj1000, qj1000000, qj1000000000, qj1442695040888963407, qj6364136223846793005, q_s1, q_s2, q_s3, q_s4, q_s5, iI_add, iI_sub, iI_mul, iI_neg, q_lt, q_le, q_eq, jI_add, jI_sub, jI_mul, jI_neg, jI_of, jI_to, j_le0, j_ge0, j_lt0, j_gt0, j_eq0, q_dvl, qz0, qz1, qz2, qz3, if_pos, if_neg, reduceIte, e0]
      rfl)
  exact ⟨M1, e, g⟩
def ma_ll (ok : Nat → Bool) (od : Nat → Int) : Nat → Int × Int
  | 0 => (-1, 0)
  | i + 1 => if ok i = true ∧ ((ma_ll ok od i).1 = -1 ∨ (ma_ll ok od i).2 < od i) then (i, od i) else ma_ll ok od i
theorem ma_ll_b (ok : Nat → Bool) {od : Nat → Int} (ho : ∀ i, 0 ≤ od i ∧ od i ≤ 1000000000) (i : Nat) : (-1 ≤ (ma_ll ok od i).1 ∧ (ma_ll ok od i).1 < i) ∧ 0 ≤ (ma_ll ok od i).2 ∧ (ma_ll ok od i).2 ≤ 1000000000 := by
  induction i with
  | zero => simp [ma_ll]
  | succ i ih =>
    have b := ho i
    simp only [ma_ll]
    split
    · simp only
      omega
    · omega
theorem ma_ll_y {ok : Nat → Bool} {od : Nat → Int} {i : Nat} (c : ok i = true) (d : (ma_ll ok od i).1 = -1 ∨ (ma_ll ok od i).2 < od i) : ma_ll ok od (i + 1) = ((i : Int), od i) := if_pos ⟨c, d⟩
theorem ma_ll_n {ok : Nat → Bool} {od : Nat → Int} {i : Nat} (h : ¬ (ok i = true ∧ ((ma_ll ok od i).1 = -1 ∨ (ma_ll ok od i).2 < od i))) : ma_ll ok od (i + 1) = ma_ll ok od i := if_neg h
theorem c_ll (W : ma_W s T V) (C : ma_C s T V M) {p : Nat} (n : Int32) (b1 : M 134 8 = iI (ma_mu s T V p : Nat)) (b2 : M 134 9 = iI (ma_nv s T V p : Nat)) (hr : ∀ h : Nat, (h : Int) < T 1 0 → M 139 h = iI (ma_now s T V p h)) (x : Int32) : l_X11_likeliest_36 M x n gs_FU (iI (-1)) (jI 0) (iI 0) = some (iI (ma_ll (ma_cb s T V p n) (ma_od s T V p) (2 ^ (T 1 0).toNat)).1, jI (ma_ll (ma_cb s T V p n) (ma_od s T V p) (2 ^ (T 1 0).toNat)).2, iI ((2 ^ (T 1 0).toNat : Nat) : Int)) := by
  have h2 := ma_2H W.2.1
  have e0 := c_hours C
  have e1 := q_2H W.2.1
  have ho := ma_od_b W.2.1 s V p
  generalize 2 ^ (T 1 0).toNat = m at h2 e1 ⊢
  obtain ⟨r, e, hr'⟩ := ma_up0 (fun f i (q : Int32 × Int64) => l_X11_likeliest_36 M x n f q.1 q.2 i) (m)
    (fun i q => q = (iI (ma_ll (ma_cb s T V p n) (ma_od s T V p) i).1, jI (ma_ll (ma_cb s T V p n) (ma_od s T V p) i).2))
    (fun r => r = (iI (ma_ll (ma_cb s T V p n) (ma_od s T V p) (m)).1, jI (ma_ll (ma_cb s T V p n) (ma_od s T V p) (m)).2, iI ((m : Nat) : Int))) (iI (-1), jI 0) (by omega) rfl
    (by
      rintro f i q hi rfl
      left
      have e2 := c_burn W n (p := p) (z := i) (by omega) b1 b2
      have e3 := c_od W C (p := p) (z := i) (by omega) hr
      have bl := ma_ll_b (ma_cb s T V p n) ho i
      have bo := ho i
      refine ⟨(iI (ma_ll (ma_cb s T V p n) (ma_od s T V p) (i + 1)).1, jI (ma_ll (ma_cb s T V p n) (ma_od s T V p) (i + 1)).2), ?_, rfl⟩
      simp only [l_X11_likeliest_36]
      by_cases c : ma_cb s T V p n i = true
      · rw [if_pos c] at e2
        rcases (by omega : (ma_ll (ma_cb s T V p n) (ma_od s T V p) i).1 = -1 ∨ ((ma_ll (ma_cb s T V p n) (ma_od s T V p) i).1 ≠ -1 ∧ (ma_ll (ma_cb s T V p n) (ma_od s T V p) i).2 < ma_od s T V p i) ∨ ((ma_ll (ma_cb s T V p n) (ma_od s T V p) i).1 ≠ -1 ∧ ma_od s T V p i ≤ (ma_ll (ma_cb s T V p n) (ma_od s T V p) i).2)) with d | d | d
        · rw [ma_ll_y c (Or.inl d)]
          simp (disch := omega) only [qn0, qn1, qn2, qn3, qn4, qn5, qn6, qn7, qn8, qn9, qn10, qn11, qn12, qn13, qn14, qn15, qn16, qn17, qn18, qn24, qn30, qn31, qn32, qn33, qn36, qn38, qn40, qn41, qn42, qn43, qn45, qn47, qn48, qn49, qn50, qn51, qn52, qn53, qn57, qn58, qn59, qn60, qn61, qn62, qn63, qn91, qn93, qn97, qn99, qn100, qn103, qn104, qn112, qn113, qn115, qn116, qn118, qn119, qn121, qn124, qn173, qn177, qn240, qn255, qn295, qn352, qn353, qn533, qn999, qn1000, qn1023, qn6561, qn10000, qn20787, qn1000000, qn252645135, qn858993459, qn1000000000, qn1431655765, qj0, qj1, qj2, qj4, qj7, qj8, qj9, qj10, qj30, qj100, qj1000, qj1000000, qj1000000000, qj1442695040888963407, qj6364136223846793005, q_s1, q_s2, q_s3, q_s4, q_s5, iI_add, iI_sub, iI_mul, iI_neg, q_lt, q_le, q_eq, jI_add, jI_sub, jI_mul, jI_neg, jI_of, jI_to, j_le0, j_ge0, j_lt0, j_gt0, j_eq0, q_dvl, qz0, qz1, qz2, qz3, if_pos, if_neg, reduceIte, e0, e1, e2, e3]
        · rw [ma_ll_y c (Or.inr d.2)]
          simp (disch := omega) only [qn0, qn1, qn2, qn3, qn4, qn5, qn6, qn7, qn8, qn9, qn10, qn11, qn12, qn13, qn14, qn15, qn16, qn17, qn18, qn24, qn30, qn31, qn32, qn33, qn36, qn38, qn40, qn41, qn42, qn43, qn45, qn47, qn48, qn49, qn50, qn51, qn52, qn53, qn57, qn58, qn59, qn60, qn61, qn62, qn63, qn91, qn93, qn97, qn99, qn100, qn103, qn104, qn112, qn113, qn115, qn116, qn118, qn119, qn121, qn124, qn173, qn177, qn240, qn255, qn295, qn352, qn353, qn533, qn999, qn1000, qn1023, qn6561, qn10000, qn20787, qn1000000, qn252645135, qn858993459, qn1000000000, qn1431655765, qj0, qj1, qj2, qj4, qj7, qj8, qj9, qj10, qj30, qj100, qj1000, qj1000000, qj1000000000, qj1442695040888963407, qj6364136223846793005, q_s1, q_s2, q_s3, q_s4, q_s5, iI_add, iI_sub, iI_mul, iI_neg, q_lt, q_le, q_eq, jI_add, jI_sub, jI_mul, jI_neg, jI_of, jI_to, j_le0, j_ge0, j_lt0, j_gt0, j_eq0, q_dvl, qz0, qz1, qz2, qz3, if_pos, if_neg, reduceIte, e0, e1, e2, e3]
        · rw [ma_ll_n (by omega)]
          simp (disch := omega) only [qn0, qn1, qn2, qn3, qn4, qn5, qn6, qn7, qn8, qn9, qn10, qn11, qn12, qn13, qn14, qn15, qn16, qn17, qn18, qn24, qn30, qn31, qn32, qn33, qn36, qn38, qn40, qn41, qn42, qn43, qn45, qn47, qn48, qn49, qn50, qn51, qn52, qn53, qn57, qn58, qn59, qn60, qn61, qn62, qn63, qn91, qn93, qn97, qn99, qn100, qn103, qn104, qn112, qn113, qn115, qn116, qn118, qn119, qn121, qn124, qn173, qn177, qn240, qn255, qn295, qn352, qn353, qn533, qn999, qn1000, qn1023, qn6561, qn10000, qn20787, qn1000000, qn252645135, qn858993459, qn1000000000, qn1431655765, qj0, qj1, qj2, qj4, qj7, qj8, qj9, qj10, qj30, qj100, qj1000, qj1000000, qj1000000000, qj1442695040888963407, qj6364136223846793005, q_s1, q_s2, q_s3, q_s4, q_s5, iI_add, iI_sub, iI_mul, iI_neg, q_lt, q_le, q_eq, jI_add, jI_sub, jI_mul, jI_neg, jI_of, jI_to, j_le0, j_ge0, j_lt0, j_gt0, j_eq0, q_dvl, qz0, qz1, qz2, qz3, if_pos, if_neg, reduceIte, e0, e1, e2, e3]
      · rw [if_neg c] at e2
        rw [ma_ll_n (fun h => c h.1)]
        simp (disch := omega) only [qn0, qn1, qn2, qn3, qn4, qn5, qn6, qn7, qn8, qn9, qn10, qn11, qn12, qn13, qn14, qn15, qn16, qn17, qn18, qn24, qn30, qn31, qn32, qn33, qn36, qn38, qn40, qn41, qn42, qn43, qn45, qn47, qn48, qn49, qn50, qn51, qn52, qn53, qn57, qn58, qn59, qn60, qn61, qn62, qn63, qn91, qn93, qn97, qn99, qn100, qn103, qn104, qn112, qn113, qn115, qn116, qn118, qn119, qn121, qn124, qn173, qn177, qn240, qn255, qn295, qn352, qn353, qn533, qn999, qn1000, qn1023, qn6561, qn10000, qn20787, qn1000000, qn252645135, qn858993459, qn1000000000, qn1431655765, qj0, qj1, qj2, qj4, qj7, qj8, qj9, qj10, qj30, qj100, qj1000, qj1000000, qj1000000000, qj1442695040888963407, qj6364136223846793005, q_s1, q_s2, q_s3, q_s4, q_s5, iI_add, iI_sub, iI_mul, iI_neg, q_lt, q_le, q_eq, jI_add, jI_sub, jI_mul, jI_neg, jI_of, jI_to, j_le0, j_ge0, j_lt0, j_gt0, j_eq0, q_dvl, qz0, qz1, qz2, qz3, if_pos, if_neg, reduceIte, e0, e1, e2])
    (by
      rintro f q rfl
      refine ⟨_, ?_, rfl⟩
      simp only [l_X11_likeliest_36]
      simp (disch := omega) only [qn0, qn1, qn2, qn3, qn4, qn5, qn6, qn7, qn8, qn9, qn10, qn11, qn12, qn13, qn14, qn15, qn16, qn17, qn18, qn24, qn30, qn31, qn32, qn33, qn36, qn38, qn40, qn41, qn42, qn43, qn45, qn47, qn48, qn49, qn50, qn51, qn52, qn53, qn57, qn58, qn59, qn60, qn61, qn62, qn63, qn91, qn93, qn97, qn99, qn100, qn103, qn104, qn112, qn113, qn115, qn116, qn118, qn119, qn121, qn124, qn173, qn177, qn240, qn255, qn295, qn352, qn353, qn533, qn999, qn1000, qn1023, qn6561, qn10000, qn20787, qn1000000, qn252645135, qn858993459, qn1000000000, qn1431655765, qj0, qj1, qj2, qj4, qj7, qj8, qj9, qj10, qj30, qj100, qj1000, qj1000000, qj1000000000, qj1442695040888963407, qj6364136223846793005, q_s1, q_s2, q_s3, q_s4, q_s5, iI_add, iI_sub, iI_mul, iI_neg, q_lt, q_le, q_eq, jI_add, jI_sub, jI_mul, jI_neg, jI_of, jI_to, j_le0, j_ge0, j_lt0, j_gt0, j_eq0, q_dvl, qz0, qz1, qz2, qz3, if_pos, if_neg, reduceIte, e0, e1])
  subst hr'
  exact e
theorem m_ll (W : ma_W s T V) (D : ma_M s T V M) {p : Nat} (hp : (p : Int) < T 3 0) (n : Int32) : ∃ M1, l_X12_likeliest_24 (iI p) n gs_FU (iI (-1)) (jI 0) (iI 0) M = some (iI (ma_ll (ma_cb s T V p n) (ma_od s T V p) (2 ^ (T 1 0).toNat)).1, jI (ma_ll (ma_cb s T V p n) (ma_od s T V p) (2 ^ (T 1 0).toNat)).2, iI ((2 ^ (T 1 0).toNat : Nat) : Int), M1) ∧ iv_ag M M1 := by
  have w := W.2.1
  have h2 := ma_2H W.2.1
  have e1 := q_2H W.2.1
  have ho := ma_od_b W.2.1 s V p
  generalize 2 ^ (T 1 0).toNat = m at h2 e1 ⊢
  obtain ⟨r, e, M1, rfl, g⟩ := ma_up0 (fun f i (q : Int32 × Int64 × gs_M) => l_X12_likeliest_24 (iI p) n f q.1 q.2.1 i q.2.2) (m)
    (fun i q => q.1 = iI (ma_ll (ma_cb s T V p n) (ma_od s T V p) i).1 ∧ q.2.1 = jI (ma_ll (ma_cb s T V p n) (ma_od s T V p) i).2 ∧ iv_ag M q.2.2)
    (fun r => ∃ M1, r = (iI (ma_ll (ma_cb s T V p n) (ma_od s T V p) (m)).1, jI (ma_ll (ma_cb s T V p n) (ma_od s T V p) (m)).2, iI ((m : Nat) : Int), M1) ∧ iv_ag M M1) (iI (-1), jI 0, M) (by omega) ⟨rfl, rfl, iv_ag.rf⟩
    (by
      rintro f i ⟨q1, q2, N⟩ hi ⟨hq1, hq2, hM⟩
      simp only at hq1 hq2 hM
      subst hq1 hq2
      left
      have DN := D.ag w hM
      have e0 := m_rule0 DN
      obtain ⟨N1, e2, g1⟩ := m_burn W DN (p := p) (z := i) hp (by omega) n
      obtain ⟨N2, e3, g2⟩ := m_od W (DN.ag w g1) (p := p) (z := i) hp (by omega) n (iI (ma_ll (ma_cb s T V p n) (ma_od s T V p) i).1) (jI (ma_ll (ma_cb s T V p n) (ma_od s T V p) i).2)
      have bl := ma_ll_b (ma_cb s T V p n) ho i
      have bo := ho i
      by_cases c : ma_cb s T V p n i = true
      · rw [if_pos c] at e2
        refine ⟨(iI (ma_ll (ma_cb s T V p n) (ma_od s T V p) (i + 1)).1, jI (ma_ll (ma_cb s T V p n) (ma_od s T V p) (i + 1)).2, N2), ?_, rfl, rfl, hM.tr (g1.tr g2)⟩
        simp only [l_X12_likeliest_24]
        rcases (by omega : (ma_ll (ma_cb s T V p n) (ma_od s T V p) i).1 = -1 ∨ ((ma_ll (ma_cb s T V p n) (ma_od s T V p) i).1 ≠ -1 ∧ (ma_ll (ma_cb s T V p n) (ma_od s T V p) i).2 < ma_od s T V p i) ∨ ((ma_ll (ma_cb s T V p n) (ma_od s T V p) i).1 ≠ -1 ∧ ma_od s T V p i ≤ (ma_ll (ma_cb s T V p n) (ma_od s T V p) i).2)) with d | d | d
        · rw [ma_ll_y c (Or.inl d)]
          simp (disch := omega) only [qn0, qn1, qn2, qn3, qn4, qn5, qn6, qn7, qn8, qn9, qn10, qn11, qn12, qn13, qn14, qn15, qn16, qn17, qn18, qn24, qn30, qn31, qn32, qn33, qn36, qn38, qn40, qn41, qn42, qn43, qn45, qn47, qn48, qn49, qn50, qn51, qn52, qn53, qn57, qn58, qn59, qn60, qn61, qn62, qn63, qn91, qn93, qn97, qn99, qn100, qn103, qn104, qn112, qn113, qn115, qn116, qn118, qn119, qn121, qn124, qn173, qn177, qn240, qn255, qn295, qn352, qn353, qn533, qn999, qn1000, qn1023, qn6561, qn10000, qn20787, qn1000000, qn252645135, qn858993459, qn1000000000, qn1431655765, qj0, qj1, qj2, qj4, qj7, qj8, qj9, qj10, qj30, qj100, qj1000, qj1000000, qj1000000000, qj1442695040888963407, qj6364136223846793005, q_s1, q_s2, q_s3, q_s4, q_s5, iI_add, iI_sub, iI_mul, iI_neg, q_lt, q_le, q_eq, jI_add, jI_sub, jI_mul, jI_neg, jI_of, jI_to, j_le0, j_ge0, j_lt0, j_gt0, j_eq0, q_dvl, qz0, qz1, qz2, qz3, if_pos, if_neg, reduceIte, e0, e1, e2, e3]
        · rw [ma_ll_y c (Or.inr d.2)]
          simp (disch := omega) only [qn0, qn1, qn2, qn3, qn4, qn5, qn6, qn7, qn8, qn9, qn10, qn11, qn12, qn13, qn14, qn15, qn16, qn17, qn18, qn24, qn30, qn31, qn32, qn33, qn36, qn38, qn40, qn41, qn42, qn43, qn45, qn47, qn48, qn49, qn50, qn51, qn52, qn53, qn57, qn58, qn59, qn60, qn61, qn62, qn63, qn91, qn93, qn97, qn99, qn100, qn103, qn104, qn112, qn113, qn115, qn116, qn118, qn119, qn121, qn124, qn173, qn177, qn240, qn255, qn295, qn352, qn353, qn533, qn999, qn1000, qn1023, qn6561, qn10000, qn20787, qn1000000, qn252645135, qn858993459, qn1000000000, qn1431655765, qj0, qj1, qj2, qj4, qj7, qj8, qj9, qj10, qj30, qj100, qj1000, qj1000000, qj1000000000, qj1442695040888963407, qj6364136223846793005, q_s1, q_s2, q_s3, q_s4, q_s5, iI_add, iI_sub, iI_mul, iI_neg, q_lt, q_le, q_eq, jI_add, jI_sub, jI_mul, jI_neg, jI_of, jI_to, j_le0, j_ge0, j_lt0, j_gt0, j_eq0, q_dvl, qz0, qz1, qz2, qz3, if_pos, if_neg, reduceIte, e0, e1, e2, e3]
        · rw [ma_ll_n (by omega)]
          simp (disch := omega) only [qn0, qn1, qn2, qn3, qn4, qn5, qn6, qn7, qn8, qn9, qn10, qn11, qn12, qn13, qn14, qn15, qn16, qn17, qn18, qn24, qn30, qn31, qn32, qn33, qn36, qn38, qn40, qn41, qn42, qn43, qn45, qn47, qn48, qn49, qn50, qn51, qn52, qn53, qn57, qn58, qn59, qn60, qn61, qn62, qn63, qn91, qn93, qn97, qn99, qn100, qn103, qn104, qn112, qn113, qn115, qn116, qn118, qn119, qn121, qn124, qn173, qn177, qn240, qn255, qn295, qn352, qn353, qn533, qn999, qn1000, qn1023, qn6561, qn10000, qn20787, qn1000000, qn252645135, qn858993459, qn1000000000, qn1431655765, qj0, qj1, qj2, qj4, qj7, qj8, qj9, qj10, qj30, qj100, qj1000, qj1000000, qj1000000000, qj1442695040888963407, qj6364136223846793005, q_s1, q_s2, q_s3, q_s4, q_s5, iI_add, iI_sub, iI_mul, iI_neg, q_lt, q_le, q_eq, jI_add, jI_sub, jI_mul, jI_neg, jI_of, jI_to, j_le0, j_ge0, j_lt0, j_gt0, j_eq0, q_dvl, qz0, qz1, qz2, qz3, if_pos, if_neg, reduceIte, e0, e1, e2, e3]
      · rw [if_neg c] at e2
        refine ⟨(iI (ma_ll (ma_cb s T V p n) (ma_od s T V p) (i + 1)).1, jI (ma_ll (ma_cb s T V p n) (ma_od s T V p) (i + 1)).2, N1), ?_, rfl, rfl, hM.tr g1⟩
        simp only [l_X12_likeliest_24]
        rw [ma_ll_n (fun h => c h.1)]
        simp (disch := omega) only [qn0, qn1, qn2, qn3, qn4, qn5, qn6, qn7, qn8, qn9, qn10, qn11, qn12, qn13, qn14, qn15, qn16, qn17, qn18, qn24, qn30, qn31, qn32, qn33, qn36, qn38, qn40, qn41, qn42, qn43, qn45, qn47, qn48, qn49, qn50, qn51, qn52, qn53, qn57, qn58, qn59, qn60, qn61, qn62, qn63, qn91, qn93, qn97, qn99, qn100, qn103, qn104, qn112, qn113, qn115, qn116, qn118, qn119, qn121, qn124, qn173, qn177, qn240, qn255, qn295, qn352, qn353, qn533, qn999, qn1000, qn1023, qn6561, qn10000, qn20787, qn1000000, qn252645135, qn858993459, qn1000000000, qn1431655765, qj0, qj1, qj2, qj4, qj7, qj8, qj9, qj10, qj30, qj100, qj1000, qj1000000, qj1000000000, qj1442695040888963407, qj6364136223846793005, q_s1, q_s2, q_s3, q_s4, q_s5, iI_add, iI_sub, iI_mul, iI_neg, q_lt, q_le, q_eq, jI_add, jI_sub, jI_mul, jI_neg, jI_of, jI_to, j_le0, j_ge0, j_lt0, j_gt0, j_eq0, q_dvl, qz0, qz1, qz2, qz3, if_pos, if_neg, reduceIte, e0, e1, e2])
    (by
      rintro f ⟨q1, q2, N⟩ ⟨hq1, hq2, hM⟩
      simp only at hq1 hq2 hM
      subst hq1 hq2
      have DN := D.ag w hM
      have e0 := m_rule0 DN
      refine ⟨_, ?_, N, rfl, hM⟩
      simp only [l_X12_likeliest_24]
      simp (disch := omega) only [qn0, qn1, qn2, qn3, qn4, qn5, qn6, qn7, qn8, qn9, qn10, qn11, qn12, qn13, qn14, qn15, qn16, qn17, qn18, qn24, qn30, qn31, qn32, qn33, qn36, qn38, qn40, qn41, qn42, qn43, qn45, qn47, qn48, qn49, qn50, qn51, qn52, qn53, qn57, qn58, qn59, qn60, qn61, qn62, qn63, qn91, qn93, qn97, qn99, qn100, qn103, qn104, qn112, qn113, qn115, qn116, qn118, qn119, qn121, qn124, qn173, qn177, qn240, qn255, qn295, qn352, qn353, qn533, qn999, qn1000, qn1023, qn6561, qn10000, qn20787, qn1000000, qn252645135, qn858993459, qn1000000000, qn1431655765, qj0, qj1, qj2, qj4, qj7, qj8, qj9, qj10, qj30, qj100, qj1000, qj1000000, qj1000000000, qj1442695040888963407, qj6364136223846793005, q_s1, q_s2, q_s3, q_s4, q_s5, iI_add, iI_sub, iI_mul, iI_neg, q_lt, q_le, q_eq, jI_add, jI_sub, jI_mul, jI_neg, jI_of, jI_to, j_le0, j_ge0, j_lt0, j_gt0, j_eq0, q_dvl, qz0, qz1, qz2, qz3, if_pos, if_neg, reduceIte, e0, e1])
  exact ⟨M1, e, g⟩
/-- no PERSON or no such n, or both right -/
theorem ma_isC (W : ma_W s T V) (x y : Int32) : ((∀ M, ma_M s T V M → f_X12_isCandle M x y = some (iI 0)) ∧ ((∀ M, ma_C s T V M → f_X11_isPerson M x = some (iI 0)) ∨ ((∀ M, ma_C s T V M → f_X11_isPerson M x = some (iI 1)) ∧ ∃ z : Int, y = iI z ∧ -2147483648 ≤ z ∧ z < 2147483648 ∧ (z < 0 ∨ 9 < z)))) ∨ ∃ p : Nat, (p : Int) < T 3 0 ∧ p < 8 ∧ x = iI p ∧ (∃ z : Int, y = iI z ∧ 0 ≤ z ∧ z ≤ 9) ∧ ∀ M, ma_M s T V M → f_X12_isCandle M x y = some (iI 1) := by
  have w := W.2.1
  rcases ma_isP W x with ⟨n1, n2⟩ | ⟨p, hp, p8, rfl⟩
  · left
    refine ⟨fun M D => ?_, Or.inl n1⟩
    unfold f_X12_isCandle
    simp (disch := omega) only [qn0, qn1, qn2, qn3, qn4, qn5, qn6, qn7, qn8, qn9, qn10, qn11, qn12, qn13, qn14, qn15, qn16, qn17, qn18, qn24, qn30, qn31, qn32, qn33, qn36, qn38, qn40, qn41, qn42, qn43, qn45, qn47, qn48, qn49, qn50, qn51, qn52, qn53, qn57, qn58, qn59, qn60, qn61, qn62, qn63, qn91, qn93, qn97, qn99, qn100, qn103, qn104, qn112, qn113, qn115, qn116, qn118, qn119, qn121, qn124, qn173, qn177, qn240, qn255, qn295, qn352, qn353, qn533, qn999, qn1000, qn1023, qn6561, qn10000, qn20787, qn1000000, qn252645135, qn858993459, qn1000000000, qn1431655765, qj0, qj1, qj2, qj4, qj7, qj8, qj9, qj10, qj30, qj100, qj1000, qj1000000, qj1000000000, qj1442695040888963407, qj6364136223846793005, q_s1, q_s2, q_s3, q_s4, q_s5, iI_add, iI_sub, iI_mul, iI_neg, q_lt, q_le, q_eq, jI_add, jI_sub, jI_mul, jI_neg, jI_of, jI_to, j_le0, j_ge0, j_lt0, j_gt0, j_eq0, q_dvl, qz0, qz1, qz2, qz3, if_pos, if_neg, reduceIte, n2 M D]
  obtain ⟨z, z1, z2, rfl⟩ := q_any y
  rcases (by omega : z < 0 ∨ 9 < z ∨ (0 ≤ z ∧ z ≤ 9)) with d | d | d
  · left
    refine ⟨fun M D => ?_, Or.inr ⟨fun M C => c_isP w C hp, z, rfl, z1, z2, Or.inl d⟩⟩
    unfold f_X12_isCandle
    simp (disch := omega) only [qn0, qn1, qn2, qn3, qn4, qn5, qn6, qn7, qn8, qn9, qn10, qn11, qn12, qn13, qn14, qn15, qn16, qn17, qn18, qn24, qn30, qn31, qn32, qn33, qn36, qn38, qn40, qn41, qn42, qn43, qn45, qn47, qn48, qn49, qn50, qn51, qn52, qn53, qn57, qn58, qn59, qn60, qn61, qn62, qn63, qn91, qn93, qn97, qn99, qn100, qn103, qn104, qn112, qn113, qn115, qn116, qn118, qn119, qn121, qn124, qn173, qn177, qn240, qn255, qn295, qn352, qn353, qn533, qn999, qn1000, qn1023, qn6561, qn10000, qn20787, qn1000000, qn252645135, qn858993459, qn1000000000, qn1431655765, qj0, qj1, qj2, qj4, qj7, qj8, qj9, qj10, qj30, qj100, qj1000, qj1000000, qj1000000000, qj1442695040888963407, qj6364136223846793005, q_s1, q_s2, q_s3, q_s4, q_s5, iI_add, iI_sub, iI_mul, iI_neg, q_lt, q_le, q_eq, jI_add, jI_sub, jI_mul, jI_neg, jI_of, jI_to, j_le0, j_ge0, j_lt0, j_gt0, j_eq0, q_dvl, qz0, qz1, qz2, qz3, if_pos, if_neg, reduceIte, m_isP w D hp, m_isOut]
  · left
    refine ⟨fun M D => ?_, Or.inr ⟨fun M C => c_isP w C hp, z, rfl, z1, z2, Or.inr d⟩⟩
    unfold f_X12_isCandle
    simp (disch := omega) only [qn0, qn1, qn2, qn3, qn4, qn5, qn6, qn7, qn8, qn9, qn10, qn11, qn12, qn13, qn14, qn15, qn16, qn17, qn18, qn24, qn30, qn31, qn32, qn33, qn36, qn38, qn40, qn41, qn42, qn43, qn45, qn47, qn48, qn49, qn50, qn51, qn52, qn53, qn57, qn58, qn59, qn60, qn61, qn62, qn63, qn91, qn93, qn97, qn99, qn100, qn103, qn104, qn112, qn113, qn115, qn116, qn118, qn119, qn121, qn124, qn173, qn177, qn240, qn255, qn295, qn352, qn353, qn533, qn999, qn1000, qn1023, qn6561, qn10000, qn20787, qn1000000, qn252645135, qn858993459, qn1000000000, qn1431655765, qj0, qj1, qj2, qj4, qj7, qj8, qj9, qj10, qj30, qj100, qj1000, qj1000000, qj1000000000, qj1442695040888963407, qj6364136223846793005, q_s1, q_s2, q_s3, q_s4, q_s5, iI_add, iI_sub, iI_mul, iI_neg, q_lt, q_le, q_eq, jI_add, jI_sub, jI_mul, jI_neg, jI_of, jI_to, j_le0, j_ge0, j_lt0, j_gt0, j_eq0, q_dvl, qz0, qz1, qz2, qz3, if_pos, if_neg, reduceIte, m_isP w D hp, m_isOut]
  · right
    refine ⟨p, hp, p8, rfl, ⟨z, rfl, d.1, d.2⟩, fun M D => ?_⟩
    unfold f_X12_isCandle
    simp (disch := omega) only [qn0, qn1, qn2, qn3, qn4, qn5, qn6, qn7, qn8, qn9, qn10, qn11, qn12, qn13, qn14, qn15, qn16, qn17, qn18, qn24, qn30, qn31, qn32, qn33, qn36, qn38, qn40, qn41, qn42, qn43, qn45, qn47, qn48, qn49, qn50, qn51, qn52, qn53, qn57, qn58, qn59, qn60, qn61, qn62, qn63, qn91, qn93, qn97, qn99, qn100, qn103, qn104, qn112, qn113, qn115, qn116, qn118, qn119, qn121, qn124, qn173, qn177, qn240, qn255, qn295, qn352, qn353, qn533, qn999, qn1000, qn1023, qn6561, qn10000, qn20787, qn1000000, qn252645135, qn858993459, qn1000000000, qn1431655765, qj0, qj1, qj2, qj4, qj7, qj8, qj9, qj10, qj30, qj100, qj1000, qj1000000, qj1000000000, qj1442695040888963407, qj6364136223846793005, q_s1, q_s2, q_s3, q_s4, q_s5, iI_add, iI_sub, iI_mul, iI_neg, q_lt, q_le, q_eq, jI_add, jI_sub, jI_mul, jI_neg, jI_of, jI_to, j_le0, j_ge0, j_lt0, j_gt0, j_eq0, q_dvl, qz0, qz1, qz2, qz3, if_pos, if_neg, reduceIte, m_isP w D hp, m_isIn]
/-- seem: what an HOUR counts -/
def ma_u (s : Nat → Int) (T : Nat → Nat → Int) (V : ma_V) (p k : Nat) (a : Int) (h : Nat) : Int := if T 5 (9 * k + h) = p then ma_pt s T V (T 3 2) p h a (s (6 * p + 2)) else 0
def ma_us (s : Nat → Int) (T : Nat → Nat → Int) (V : ma_V) (p k z h : Nat) : Int := ma_u s T V p k (if z.testBit h = true then 1 else 0) h
def ma_ut (s : Nat → Int) (T : Nat → Nat → Int) (V : ma_V) (p k z : Nat) : Int := ma_cs s T V (T 3 2) p + ma_sm (T 1 0).toNat (ma_us s T V p k z)
theorem ma_u_b (s : Nat → Int) (T : Nat → Nat → Int) (V : ma_V) (p k : Nat) (a : Int) (h : Nat) : -9 ≤ ma_u s T V p k a h ∧ ma_u s T V p k a h ≤ 9 := by
  have := ma_pt_b s T V (T 3 2) p h a (s (6 * p + 2))
  unfold ma_u
  split <;> omega
theorem ma_ut_b (W : ma_W s T V) (p k z : Nat) : -700 ≤ ma_ut s T V p k z ∧ ma_ut s T V p k z ≤ 700 := by
  have f2 := W.2.1.2.1
  have h1 := ma_cs_b W.1 T V (T 3 2) p
  have h2 := ma_sm_b (n := (T 1 0).toNat) (f := ma_us s T V p k z) (a := -9) (b := 9) (fun i _ => ma_u_b _ _ _ _ _ _ _)
  unfold ma_ut
  omega
/-- the class's way: dark, and what changes -/
def ma_ch (s : Nat → Int) (T : Nat → Nat → Int) (V : ma_V) (p k z h : Nat) : Int := if z.testBit h = true ∧ h < (T 1 0).toNat then ma_u s T V p k 1 h - ma_u s T V p k 0 h else 0
theorem ma_ch_e (s : Nat → Int) (T : Nat → Nat → Int) (V : ma_V) (p k z : Nat) {n : Nat} (hn : n ≤ (T 1 0).toNat) : ma_sm n (ma_u s T V p k 0) + ma_sm n (ma_ch s T V p k z) = ma_sm n (ma_us s T V p k z) := by
  induction n with
  | zero => rfl
  | succ n ih =>
    have h1 := ih (by omega)
    simp only [ma_sm]
    have e : ma_ch s T V p k z n = if z.testBit n = true ∧ n < (T 1 0).toNat then ma_u s T V p k 1 n - ma_u s T V p k 0 n else 0 := rfl
    have e2 : ma_us s T V p k z n = ma_u s T V p k (if z.testBit n = true then 1 else 0) n := rfl
    rw [e, e2]
    by_cases c : z.testBit n = true
    · rw [if_pos ⟨c, by omega⟩, if_pos c]; omega
    · rw [if_neg (fun h => c h.1), if_neg c]; omega
theorem ma_ch_9 (w : ma_wT T) (s : Nat → Int) (V : ma_V) (p k z : Nat) {n : Nat} (hn : (T 1 0).toNat ≤ n) : ma_sm n (ma_ch s T V p k z) = ma_sm (T 1 0).toNat (ma_ch s T V p k z) := by
  induction n with
  | zero =>
    have : (T 1 0).toNat = 0 := by omega
    rw [this]
  | succ n ih =>
    rcases (by omega : (T 1 0).toNat = n + 1 ∨ (T 1 0).toNat ≤ n) with c | c
    · rw [c]
    · simp only [ma_sm]
      rw [ih c]
      have e : ma_ch s T V p k z n = 0 := by
        unfold ma_ch
        rw [if_neg (by omega)]
      omega
theorem c_s1 (W : ma_W s T V) (C : ma_C s T V M) {p k : Nat} (hp : (p : Int) < T 3 0) (hk : (k : Int) < T 3 5) (x : Int32) : ∃ M1, l_X11_seem_43 (iI p) (iI k) x gs_FU (iI (ma_cs s T V (T 3 2) p)) (iI 0) M = some (iI (ma_cs s T V (T 3 2) p + ma_sm (T 1 0).toNat (ma_u s T V p k 0)), iI ((T 1 0).toNat : Nat), M1) ∧ iv_co M M1 ∧ ∀ h : Nat, (h : Int) < T 1 0 → M1 146 h = iI (ma_u s T V p k 1 h - ma_u s T V p k 0 h) := by
  have w := W.2.1
  obtain ⟨f1, f2, f3, f4, f5, f6, f7, f8, f9, f10, f11, f12, f13, f14, f15, f16, -⟩ := W.2.1
  have o := W.1.1 p (by omega)
  unfold ma_one at o
  obtain ⟨r, e, M1, rfl, g, h⟩ := ma_up0 (fun f i (q : Int32 × gs_M) => l_X11_seem_43 (iI p) (iI k) x f q.1 i q.2) (T 1 0).toNat
    (fun i q => q.1 = iI (ma_cs s T V (T 3 2) p + ma_sm i (ma_u s T V p k 0)) ∧ iv_co M q.2 ∧ ∀ j, j < i → q.2 146 j = iI (ma_u s T V p k 1 j - ma_u s T V p k 0 j))
    (fun r => ∃ M1, r = (iI (ma_cs s T V (T 3 2) p + ma_sm (T 1 0).toNat (ma_u s T V p k 0)), iI ((T 1 0).toNat : Nat), M1) ∧ iv_co M M1 ∧ ∀ j, j < (T 1 0).toNat → M1 146 j = iI (ma_u s T V p k 1 j - ma_u s T V p k 0 j)) (iI (ma_cs s T V (T 3 2) p), M) (by omega) ⟨by simp only [ma_sm]; rw [Int.add_zero], iv_co.rf, fun j hj => by omega⟩
    (by
      rintro f i ⟨q, N⟩ hi ⟨hq, hM, hr⟩
      simp only at hq hM hr
      subst hq
      left
      have CN := C.co w hM
      have e0 := c_hours CN
      have e1 := c_toldAt w CN (k := k) (h := i) hk (by omega)
      have b16 := f16 k i hk (by omega)
      by_cases c : T 5 (9 * k + i) = p
      · obtain ⟨N1, e2, g1⟩ := c_pt W CN hp f7 (h := i) (a := 0) (t := s (6 * p + 2)) (by omega) (by omega) (by omega)
        have C1 := CN.ag w g1
        obtain ⟨N2, e3, g2⟩ := c_pt W C1 hp f7 (h := i) (a := 1) (t := s (6 * p + 2)) (by omega) (by omega) (by omega)
        have u0 : ma_u s T V p k 0 i = ma_pt s T V (T 3 2) p i 0 (s (6 * p + 2)) := if_pos c
        have u1 : ma_u s T V p k 1 i = ma_pt s T V (T 3 2) p i 1 (s (6 * p + 2)) := if_pos c
        have e4 : f_X4_pointsNow N (iI p) (iI i) (iI 0) = some (iI (ma_u s T V p k 0 i), N1) := by
          unfold f_X4_pointsNow
          simp (disch := omega) only [qn0, qn1, qn2, qn3, qn4, qn5, qn6, qn7, qn8, qn9, qn10, qn11, qn12, qn13, qn14, qn15, qn16, qn17, qn18, qn24, qn30, qn31, qn32, qn33, qn36, qn38, qn40, qn41, qn42, qn43, qn45, qn47, qn48, qn49, qn50, qn51, qn52, qn53, qn57, qn58, qn59, qn60, qn61, qn62, qn63, qn91, qn93, qn97, qn99, qn100, qn103, qn104, qn112, qn113, qn115, qn116, qn118, qn119, qn121, qn124, qn173, qn177, qn240, qn255, qn295, qn352, qn353, qn533, qn999, qn1000, qn1023, qn6561, qn10000, qn20787, qn1000000, qn252645135, qn858993459, qn1000000000, qn1431655765, q_s1, q_s2, q_s3, q_s4, q_s5, iI_add, iI_sub, iI_mul, iI_neg, q_lt, q_le, q_eq, qz0, qz1, qz2, qz3, if_pos, if_neg, reduceIte, c_of2 CN.st (show p < 8 by omega), CN.la, e2]
          rw [u0]
        have e5 : f_X4_pointsNow N1 (iI p) (iI i) (iI 1) = some (iI (ma_u s T V p k 1 i), N2) := by
          unfold f_X4_pointsNow
          simp (disch := omega) only [qn0, qn1, qn2, qn3, qn4, qn5, qn6, qn7, qn8, qn9, qn10, qn11, qn12, qn13, qn14, qn15, qn16, qn17, qn18, qn24, qn30, qn31, qn32, qn33, qn36, qn38, qn40, qn41, qn42, qn43, qn45, qn47, qn48, qn49, qn50, qn51, qn52, qn53, qn57, qn58, qn59, qn60, qn61, qn62, qn63, qn91, qn93, qn97, qn99, qn100, qn103, qn104, qn112, qn113, qn115, qn116, qn118, qn119, qn121, qn124, qn173, qn177, qn240, qn255, qn295, qn352, qn353, qn533, qn999, qn1000, qn1023, qn6561, qn10000, qn20787, qn1000000, qn252645135, qn858993459, qn1000000000, qn1431655765, q_s1, q_s2, q_s3, q_s4, q_s5, iI_add, iI_sub, iI_mul, iI_neg, q_lt, q_le, q_eq, qz0, qz1, qz2, qz3, if_pos, if_neg, reduceIte, c_of2 C1.st (show p < 8 by omega), C1.la, e3]
          rw [u1]
        have e6 : ∀ v, gs_wr N2 146 10 (iI i) v = some (gs_up N2 146 i v) := fun v => q_wrn i rfl (by omega) (by decide)
        refine ⟨(iI (ma_cs s T V (T 3 2) p + ma_sm (i + 1) (ma_u s T V p k 0)), gs_up N2 146 i (iI (ma_u s T V p k 1 i - ma_u s T V p k 0 i))), ?_, rfl, (hM.tr (g1.tr g2).co).up _ rfl, fun j hj => ?_⟩
        · simp only [l_X11_seem_43, ma_sm]
          rw [← Int.add_assoc]
          simp (disch := omega) only [qn0, qn1, qn2, qn3, qn4, qn5, qn6, qn7, qn8, qn9, qn10, qn11, qn12, qn13, qn14, qn15, qn16, qn17, qn18, qn24, qn30, qn31, qn32, qn33, qn36, qn38, qn40, qn41, qn42, qn43, qn45, qn47, qn48, qn49, qn50, qn51, qn52, qn53, qn57, qn58, qn59, qn60, qn61, qn62, qn63, qn91, qn93, qn97, qn99, qn100, qn103, qn104, qn112, qn113, qn115, qn116, qn118, qn119, qn121, qn124, qn173, qn177, qn240, qn255, qn295, qn352, qn353, qn533, qn999, qn1000, qn1023, qn6561, qn10000, qn20787, qn1000000, qn252645135, qn858993459, qn1000000000, qn1431655765, q_s1, q_s2, q_s3, q_s4, q_s5, iI_add, iI_sub, iI_mul, iI_neg, q_lt, q_le, q_eq, qz0, qz1, qz2, qz3, if_pos, if_neg, reduceIte, e0, e1, e4, e5, e6]
        · show gs_up N2 146 i _ 146 j = _
          by_cases d : j = i
          · subst d
            rw [gs_up_eq]
          · rw [ma_cell_ne _ _ _ _ _ _ (by omega), g2 146 j rfl, g1 146 j rfl]
            exact hr j (by omega)
      · have u0 : ∀ a, ma_u s T V p k a i = 0 := fun a => if_neg c
        have e6 : ∀ v, gs_wr N 146 10 (iI i) v = some (gs_up N 146 i v) := fun v => q_wrn i rfl (by omega) (by decide)
        refine ⟨(iI (ma_cs s T V (T 3 2) p + ma_sm (i + 1) (ma_u s T V p k 0)), gs_up N 146 i (iI 0)), ?_, rfl, hM.up _ rfl, fun j hj => ?_⟩
        · simp only [l_X11_seem_43, ma_sm]
          rw [← Int.add_assoc, u0]
          simp (disch := omega) only [qn0, qn1, qn2, qn3, qn4, qn5, qn6, qn7, qn8, qn9, qn10, qn11, qn12, qn13, qn14, qn15, qn16, qn17, qn18, qn24, qn30, qn31, qn32, qn33, qn36, qn38, qn40, qn41, qn42, qn43, qn45, qn47, qn48, qn49, qn50, qn51, qn52, qn53, qn57, qn58, qn59, qn60, qn61, qn62, qn63, qn91, qn93, qn97, qn99, qn100, qn103, qn104, qn112, qn113, qn115, qn116, qn118, qn119, qn121, qn124, qn173, qn177, qn240, qn255, qn295, qn352, qn353, qn533, qn999, qn1000, qn1023, qn6561, qn10000, qn20787, qn1000000, qn252645135, qn858993459, qn1000000000, qn1431655765, q_s1, q_s2, q_s3, q_s4, q_s5, iI_add, iI_sub, iI_mul, iI_neg, q_lt, q_le, q_eq, qz0, qz1, qz2, qz3, if_pos, if_neg, reduceIte, e0, e1, e6]
        · show gs_up N 146 i _ 146 j = _
          by_cases d : j = i
          · subst d
            rw [gs_up_eq, u0, u0]
            rfl
          · rw [ma_cell_ne _ _ _ _ _ _ (by omega)]
            exact hr j (by omega))
    (by
      rintro f ⟨q, N⟩ ⟨hq, hM, hr⟩
      simp only at hq hM hr
      subst hq
      have CN := C.co w hM
      have e0 := c_hours CN
      refine ⟨_, ?_, N, rfl, hM, hr⟩
      simp only [l_X11_seem_43]
      simp (disch := omega) only [qn0, qn1, qn2, qn3, qn4, qn5, qn6, qn7, qn8, qn9, qn10, qn11, qn12, qn13, qn14, qn15, qn16, qn17, qn18, qn24, qn30, qn31, qn32, qn33, qn36, qn38, qn40, qn41, qn42, qn43, qn45, qn47, qn48, qn49, qn50, qn51, qn52, qn53, qn57, qn58, qn59, qn60, qn61, qn62, qn63, qn91, qn93, qn97, qn99, qn100, qn103, qn104, qn112, qn113, qn115, qn116, qn118, qn119, qn121, qn124, qn173, qn177, qn240, qn255, qn295, qn352, qn353, qn533, qn999, qn1000, qn1023, qn6561, qn10000, qn20787, qn1000000, qn252645135, qn858993459, qn1000000000, qn1431655765, q_s1, q_s2, q_s3, q_s4, q_s5, iI_add, iI_sub, iI_mul, iI_neg, q_lt, q_le, q_eq, qz0, qz1, qz2, qz3, if_pos, if_neg, reduceIte, e0])
  exact ⟨M1, e, g, fun h' hh => h h' (by omega)⟩
theorem c_ch (W : ma_W s T V) {p k z : Nat} (hz : z < 2 ^ (T 1 0).toNat) (hr : ∀ h : Nat, (h : Int) < T 1 0 → M 146 h = iI (ma_u s T V p k 1 h - ma_u s T V p k 0 h)) : f_X11_changeBy M (iI z) = some (iI (ma_sm (T 1 0).toNat (ma_ch s T V p k z))) := by
  have f2 := W.2.1.2.1
  have h2 := ma_2H W.2.1
  obtain ⟨r, e, hr'⟩ := ma_up0 (fun f i (q : Int32) => l_X11_changeBy_4 M (iI z) f q i) 9
    (fun i q => q = iI (ma_sm i (ma_ch s T V p k z))) (fun r => r = (iI (ma_sm 9 (ma_ch s T V p k z)), iI 9)) (iI 0) (by decide) rfl
    (by
      rintro f i q hi rfl
      left
      have e1 := b_tb (z := z) (i := i) (by omega) (by omega)
      refine ⟨_, ?_, rfl⟩
      simp only [l_X11_changeBy_4, ma_sm]
      by_cases c : z.testBit i = true
      · have hi2 : i < (T 1 0).toNat := by
          rcases (by omega : i < (T 1 0).toNat ∨ (T 1 0).toNat ≤ i) with d | d
          · exact d
          · have h3 := Nat.pow_le_pow_right (n := 2) (by decide) d
            rw [Nat.testBit_lt_two_pow (by omega)] at c
            cases c
        have e2 : gs_rd M 146 10 (iI i) = some (iI (ma_u s T V p k 1 i - ma_u s T V p k 0 i)) := by rw [q_rdn i rfl (by omega) (by decide), hr i (by omega)]
        rw [if_pos c] at e1
        have ec : ma_ch s T V p k z i = ma_u s T V p k 1 i - ma_u s T V p k 0 i := if_pos ⟨c, hi2⟩
        rw [ec]
        simp (disch := omega) only [qn0, qn1, qn2, qn3, qn4, qn5, qn6, qn7, qn8, qn9, qn10, qn11, qn12, qn13, qn14, qn15, qn16, qn17, qn18, qn24, qn30, qn31, qn32, qn33, qn36, qn38, qn40, qn41, qn42, qn43, qn45, qn47, qn48, qn49, qn50, qn51, qn52, qn53, qn57, qn58, qn59, qn60, qn61, qn62, qn63, qn91, qn93, qn97, qn99, qn100, qn103, qn104, qn112, qn113, qn115, qn116, qn118, qn119, qn121, qn124, qn173, qn177, qn240, qn255, qn295, qn352, qn353, qn533, qn999, qn1000, qn1023, qn6561, qn10000, qn20787, qn1000000, qn252645135, qn858993459, qn1000000000, qn1431655765, q_s1, q_s2, q_s3, q_s4, q_s5, iI_add, iI_sub, iI_mul, iI_neg, q_lt, q_le, q_eq, qz0, qz1, qz2, qz3, if_pos, if_neg, reduceIte, e1, e2]
      · rw [if_neg c] at e1
        have ec : ma_ch s T V p k z i = 0 := if_neg (fun h => c h.1)
        rw [ec]
        simp (disch := omega) only [qn0, qn1, qn2, qn3, qn4, qn5, qn6, qn7, qn8, qn9, qn10, qn11, qn12, qn13, qn14, qn15, qn16, qn17, qn18, qn24, qn30, qn31, qn32, qn33, qn36, qn38, qn40, qn41, qn42, qn43, qn45, qn47, qn48, qn49, qn50, qn51, qn52, qn53, qn57, qn58, qn59, qn60, qn61, qn62, qn63, qn91, qn93, qn97, qn99, qn100, qn103, qn104, qn112, qn113, qn115, qn116, qn118, qn119, qn121, qn124, qn173, qn177, qn240, qn255, qn295, qn352, qn353, qn533, qn999, qn1000, qn1023, qn6561, qn10000, qn20787, qn1000000, qn252645135, qn858993459, qn1000000000, qn1431655765, q_s1, q_s2, q_s3, q_s4, q_s5, iI_add, iI_sub, iI_mul, iI_neg, q_lt, q_le, q_eq, qz0, qz1, qz2, qz3, if_pos, if_neg, reduceIte, e1, Int.add_zero])
    (by
      rintro f q rfl
      refine ⟨_, ?_, rfl⟩
      simp only [l_X11_changeBy_4]
      simp (disch := omega) only [qn0, qn1, qn2, qn3, qn4, qn5, qn6, qn7, qn8, qn9, qn10, qn11, qn12, qn13, qn14, qn15, qn16, qn17, qn18, qn24, qn30, qn31, qn32, qn33, qn36, qn38, qn40, qn41, qn42, qn43, qn45, qn47, qn48, qn49, qn50, qn51, qn52, qn53, qn57, qn58, qn59, qn60, qn61, qn62, qn63, qn91, qn93, qn97, qn99, qn100, qn103, qn104, qn112, qn113, qn115, qn116, qn118, qn119, qn121, qn124, qn173, qn177, qn240, qn255, qn295, qn352, qn353, qn533, qn999, qn1000, qn1023, qn6561, qn10000, qn20787, qn1000000, qn252645135, qn858993459, qn1000000000, qn1431655765, q_s1, q_s2, q_s3, q_s4, q_s5, iI_add, iI_sub, iI_mul, iI_neg, q_lt, q_le, q_eq, qz0, qz1, qz2, qz3, if_pos, if_neg, reduceIte]
      rfl)
  subst hr'
  have e' : l_X11_changeBy_4 M (iI z) gs_FU (iI 0) (iI 0) = some (iI (ma_sm 9 (ma_ch s T V p k z)), iI 9) := e
  unfold f_X11_changeBy
  rw [qn0, e', gs_s2, ma_ch_9 W.2.1 s V p k z (by omega)]
/-- the first of the smallest sets -/
def ma_bs (f : Nat → Int) (r : Int) : Nat → Int
  | 0 => -1
  | i + 1 => if (ma_bs f r i = -1 ∨ ma_bc (iI i) < ma_bc (iI (ma_bs f r i))) ∧ f i < r then i else ma_bs f r i
theorem ma_bs_b (f : Nat → Int) (r : Int) (i : Nat) : -1 ≤ ma_bs f r i ∧ ma_bs f r i < i := by
  induction i with
  | zero => simp [ma_bs]
  | succ i ih =>
    simp only [ma_bs]
    split <;> omega
theorem ma_bs_y {f : Nat → Int} {r : Int} {i : Nat} (h : (ma_bs f r i = -1 ∨ ma_bc (iI i) < ma_bc (iI (ma_bs f r i))) ∧ f i < r) : ma_bs f r (i + 1) = i := if_pos h
theorem ma_bs_n {f : Nat → Int} {r : Int} {i : Nat} (h : ¬ ((ma_bs f r i = -1 ∨ ma_bc (iI i) < ma_bc (iI (ma_bs f r i))) ∧ f i < r)) : ma_bs f r (i + 1) = ma_bs f r i := if_neg h
theorem c_bs (W : ma_W s T V) (C : ma_C s T V M) {p k : Nat} (hr : ∀ h : Nat, (h : Int) < T 1 0 → M 146 h = iI (ma_u s T V p k 1 h - ma_u s T V p k 0 h)) (x y : Int32) : l_X11_seem_144 M x y (iI (ma_cs s T V (T 3 2) p + ma_sm (T 1 0).toNat (ma_u s T V p k 0))) gs_FU (iI (-1)) (iI 0) = some (iI (ma_bs (ma_ut s T V p k) (T 1 1) (2 ^ (T 1 0).toNat)), iI ((2 ^ (T 1 0).toNat : Nat) : Int)) := by
  have w := W.2.1
  have f3 := W.2.1.2.2.1
  have h2 := ma_2H W.2.1
  have e0 := c_hours C
  have e1 := q_2H W.2.1
  have e2 := c_ruled1 C
  have hch := fun z (hz : z < 2 ^ (T 1 0).toNat) => c_ch W (p := p) (k := k) (z := z) hz hr
  generalize 2 ^ (T 1 0).toNat = m at h2 e1 hch ⊢
  obtain ⟨r, e, hr'⟩ := ma_up0 (fun f i (q : Int32) => l_X11_seem_144 M x y (iI (ma_cs s T V (T 3 2) p + ma_sm (T 1 0).toNat (ma_u s T V p k 0))) f q i) (m)
    (fun i q => q = iI (ma_bs (ma_ut s T V p k) (T 1 1) i)) (fun r => r = (iI (ma_bs (ma_ut s T V p k) (T 1 1) (m)), iI ((m : Nat) : Int))) (iI (-1)) (by omega) rfl
    (by
      rintro f i q hi rfl
      left
      have e3 := hch i hi
      have bt := ma_ut_b W p k i
      have es := ma_ch_e s T V p k i (n := (T 1 0).toNat) (Nat.le_refl _)
      have eu : ma_cs s T V (T 3 2) p + ma_sm (T 1 0).toNat (ma_u s T V p k 0) + ma_sm (T 1 0).toNat (ma_ch s T V p k i) = ma_ut s T V p k i := by
        unfold ma_ut
        omega
      have bb := ma_bs_b (ma_ut s T V p k) (T 1 1) i
      refine ⟨iI (ma_bs (ma_ut s T V p k) (T 1 1) (i + 1)), ?_, rfl⟩
      simp only [l_X11_seem_144]
      by_cases c1 : ma_bs (ma_ut s T V p k) (T 1 1) i = -1
      · rcases (by omega : ma_ut s T V p k i < T 1 1 ∨ T 1 1 ≤ ma_ut s T V p k i) with d | d
        · rw [ma_bs_y ⟨Or.inl c1, d⟩, c1]
          simp (disch := omega) only [qn0, qn1, qn2, qn3, qn4, qn5, qn6, qn7, qn8, qn9, qn10, qn11, qn12, qn13, qn14, qn15, qn16, qn17, qn18, qn24, qn30, qn31, qn32, qn33, qn36, qn38, qn40, qn41, qn42, qn43, qn45, qn47, qn48, qn49, qn50, qn51, qn52, qn53, qn57, qn58, qn59, qn60, qn61, qn62, qn63, qn91, qn93, qn97, qn99, qn100, qn103, qn104, qn112, qn113, qn115, qn116, qn118, qn119, qn121, qn124, qn173, qn177, qn240, qn255, qn295, qn352, qn353, qn533, qn999, qn1000, qn1023, qn6561, qn10000, qn20787, qn1000000, qn252645135, qn858993459, qn1000000000, qn1431655765, q_s1, q_s2, q_s3, q_s4, q_s5, iI_add, iI_sub, iI_mul, iI_neg, q_lt, q_le, q_eq, qz0, qz1, qz2, qz3, if_pos, if_neg, reduceIte, e0, e1, e3, e2, eu]
        · rw [ma_bs_n (by omega), c1]
          simp (disch := omega) only [qn0, qn1, qn2, qn3, qn4, qn5, qn6, qn7, qn8, qn9, qn10, qn11, qn12, qn13, qn14, qn15, qn16, qn17, qn18, qn24, qn30, qn31, qn32, qn33, qn36, qn38, qn40, qn41, qn42, qn43, qn45, qn47, qn48, qn49, qn50, qn51, qn52, qn53, qn57, qn58, qn59, qn60, qn61, qn62, qn63, qn91, qn93, qn97, qn99, qn100, qn103, qn104, qn112, qn113, qn115, qn116, qn118, qn119, qn121, qn124, qn173, qn177, qn240, qn255, qn295, qn352, qn353, qn533, qn999, qn1000, qn1023, qn6561, qn10000, qn20787, qn1000000, qn252645135, qn858993459, qn1000000000, qn1431655765, q_s1, q_s2, q_s3, q_s4, q_s5, iI_add, iI_sub, iI_mul, iI_neg, q_lt, q_le, q_eq, qz0, qz1, qz2, qz3, if_pos, if_neg, reduceIte, e0, e1, e3, e2, eu]
      · by_cases c2 : ma_bc (iI i) < ma_bc (iI (ma_bs (ma_ut s T V p k) (T 1 1) i))
        · have c3 : ¬ ma_bc (iI (ma_bs (ma_ut s T V p k) (T 1 1) i)) ≤ ma_bc (iI i) := Int32.not_le.2 c2
          rcases (by omega : ma_ut s T V p k i < T 1 1 ∨ T 1 1 ≤ ma_ut s T V p k i) with d | d
          · rw [ma_bs_y ⟨Or.inr c2, d⟩]
            simp (disch := first | exact c3 | omega) only [qn0, qn1, qn2, qn3, qn4, qn5, qn6, qn7, qn8, qn9, qn10, qn11, qn12, qn13, qn14, qn15, qn16, qn17, qn18, qn24, qn30, qn31, qn32, qn33, qn36, qn38, qn40, qn41, qn42, qn43, qn45, qn47, qn48, qn49, qn50, qn51, qn52, qn53, qn57, qn58, qn59, qn60, qn61, qn62, qn63, qn91, qn93, qn97, qn99, qn100, qn103, qn104, qn112, qn113, qn115, qn116, qn118, qn119, qn121, qn124, qn173, qn177, qn240, qn255, qn295, qn352, qn353, qn533, qn999, qn1000, qn1023, qn6561, qn10000, qn20787, qn1000000, qn252645135, qn858993459, qn1000000000, qn1431655765, q_s1, q_s2, q_s3, q_s4, q_s5, iI_add, iI_sub, iI_mul, iI_neg, q_lt, q_le, q_eq, qz0, qz1, qz2, qz3, if_pos, if_neg, reduceIte, e0, e1, q_bc, e3, e2, eu]
          · rw [ma_bs_n (by omega)]
            simp (disch := first | exact c3 | omega) only [qn0, qn1, qn2, qn3, qn4, qn5, qn6, qn7, qn8, qn9, qn10, qn11, qn12, qn13, qn14, qn15, qn16, qn17, qn18, qn24, qn30, qn31, qn32, qn33, qn36, qn38, qn40, qn41, qn42, qn43, qn45, qn47, qn48, qn49, qn50, qn51, qn52, qn53, qn57, qn58, qn59, qn60, qn61, qn62, qn63, qn91, qn93, qn97, qn99, qn100, qn103, qn104, qn112, qn113, qn115, qn116, qn118, qn119, qn121, qn124, qn173, qn177, qn240, qn255, qn295, qn352, qn353, qn533, qn999, qn1000, qn1023, qn6561, qn10000, qn20787, qn1000000, qn252645135, qn858993459, qn1000000000, qn1431655765, q_s1, q_s2, q_s3, q_s4, q_s5, iI_add, iI_sub, iI_mul, iI_neg, q_lt, q_le, q_eq, qz0, qz1, qz2, qz3, if_pos, if_neg, reduceIte, e0, e1, q_bc, e3, e2, eu]
        · have c3 : ma_bc (iI (ma_bs (ma_ut s T V p k) (T 1 1) i)) ≤ ma_bc (iI i) := Int32.not_lt.1 c2
          rw [ma_bs_n (fun h => by rcases h.1 with h | h; exact c1 h; exact c2 h)]
          simp (disch := first | exact c3 | omega) only [qn0, qn1, qn2, qn3, qn4, qn5, qn6, qn7, qn8, qn9, qn10, qn11, qn12, qn13, qn14, qn15, qn16, qn17, qn18, qn24, qn30, qn31, qn32, qn33, qn36, qn38, qn40, qn41, qn42, qn43, qn45, qn47, qn48, qn49, qn50, qn51, qn52, qn53, qn57, qn58, qn59, qn60, qn61, qn62, qn63, qn91, qn93, qn97, qn99, qn100, qn103, qn104, qn112, qn113, qn115, qn116, qn118, qn119, qn121, qn124, qn173, qn177, qn240, qn255, qn295, qn352, qn353, qn533, qn999, qn1000, qn1023, qn6561, qn10000, qn20787, qn1000000, qn252645135, qn858993459, qn1000000000, qn1431655765, q_s1, q_s2, q_s3, q_s4, q_s5, iI_add, iI_sub, iI_mul, iI_neg, q_lt, q_le, q_eq, qz0, qz1, qz2, qz3, if_pos, if_neg, reduceIte, e0, e1, q_bc])
    (by
      rintro f q rfl
      refine ⟨_, ?_, rfl⟩
      simp only [l_X11_seem_144]
      simp (disch := omega) only [qn0, qn1, qn2, qn3, qn4, qn5, qn6, qn7, qn8, qn9, qn10, qn11, qn12, qn13, qn14, qn15, qn16, qn17, qn18, qn24, qn30, qn31, qn32, qn33, qn36, qn38, qn40, qn41, qn42, qn43, qn45, qn47, qn48, qn49, qn50, qn51, qn52, qn53, qn57, qn58, qn59, qn60, qn61, qn62, qn63, qn91, qn93, qn97, qn99, qn100, qn103, qn104, qn112, qn113, qn115, qn116, qn118, qn119, qn121, qn124, qn173, qn177, qn240, qn255, qn295, qn352, qn353, qn533, qn999, qn1000, qn1023, qn6561, qn10000, qn20787, qn1000000, qn252645135, qn858993459, qn1000000000, qn1431655765, q_s1, q_s2, q_s3, q_s4, q_s5, iI_add, iI_sub, iI_mul, iI_neg, q_lt, q_le, q_eq, qz0, qz1, qz2, qz3, if_pos, if_neg, reduceIte, e0, e1])
  subst hr'
  exact e
theorem m_ut (W : ma_W s T V) (D : ma_M s T V M) {p k z : Nat} (hp : (p : Int) < T 3 0) (hk : (k : Int) < T 3 5) (hz : z < 512) (x3 x4 : Int32) : ∃ M1, l_X12_seem_75 (iI p) (iI k) x3 x4 (iI z) gs_FU (iI (ma_cs s T V (T 3 2) p)) (iI 0) M = some (iI (ma_ut s T V p k z), iI ((T 1 0).toNat : Nat), M1) ∧ iv_ag M M1 := by
  have w := W.2.1
  obtain ⟨f1, f2, f3, f4, f5, f6, f7, f8, f9, f10, f11, f12, f13, f14, f15, f16, -⟩ := W.2.1
  have o := W.1.1 p (by omega)
  unfold ma_one at o
  obtain ⟨r, e, M1, rfl, g⟩ := ma_up0 (fun f i (q : Int32 × gs_M) => l_X12_seem_75 (iI p) (iI k) x3 x4 (iI z) f q.1 i q.2) (T 1 0).toNat
    (fun i q => q.1 = iI (ma_cs s T V (T 3 2) p + ma_sm i (ma_us s T V p k z)) ∧ iv_ag M q.2)
    (fun r => ∃ M1, r = (iI (ma_ut s T V p k z), iI ((T 1 0).toNat : Nat), M1) ∧ iv_ag M M1) (iI (ma_cs s T V (T 3 2) p), M) (by omega) ⟨by simp only [ma_sm]; rw [Int.add_zero], iv_ag.rf⟩
    (by
      rintro f i ⟨q, N⟩ hi ⟨hq, hM⟩
      simp only at hq hM
      subst hq
      left
      have DN := D.ag w hM
      have e0 := m_rule0 DN
      have e1 := m_watB w DN (k := k) (h := i) hk (by omega)
      have b16 := f16 k i hk (by omega)
      have eb := b_tb (z := z) (i := i) (by omega) (by omega)
      by_cases c : T 5 (9 * k + i) = p
      · obtain ⟨N1, e2, g1⟩ := m_pt W DN hp f7 (h := i) (a := if z.testBit i = true then 1 else 0) (t := s (6 * p + 2)) (by omega) (by split <;> omega) (by omega)
        have u0 : ma_us s T V p k z i = ma_pt s T V (T 3 2) p i (if z.testBit i = true then 1 else 0) (s (6 * p + 2)) := if_pos c
        rw [← u0] at e2
        refine ⟨(iI (ma_cs s T V (T 3 2) p + ma_sm (i + 1) (ma_us s T V p k z)), N1), ?_, rfl, hM.tr g1⟩
        simp only [l_X12_seem_75, ma_sm]
        rw [← Int.add_assoc]
        simp (disch := omega) only [qn0, qn1, qn2, qn3, qn4, qn5, qn6, qn7, qn8, qn9, qn10, qn11, qn12, qn13, qn14, qn15, qn16, qn17, qn18, qn24, qn30, qn31, qn32, qn33, qn36, qn38, qn40, qn41, qn42, qn43, qn45, qn47, qn48, qn49, qn50, qn51, qn52, qn53, qn57, qn58, qn59, qn60, qn61, qn62, qn63, qn91, qn93, qn97, qn99, qn100, qn103, qn104, qn112, qn113, qn115, qn116, qn118, qn119, qn121, qn124, qn173, qn177, qn240, qn255, qn295, qn352, qn353, qn533, qn999, qn1000, qn1023, qn6561, qn10000, qn20787, qn1000000, qn252645135, qn858993459, qn1000000000, qn1431655765, q_s1, q_s2, q_s3, q_s4, q_s5, iI_add, iI_sub, iI_mul, iI_neg, q_lt, q_le, q_eq, qz0, qz1, qz2, qz3, if_pos, if_neg, reduceIte, e0, e1, m_of2 DN.st (show p < 8 by omega), DN.la, eb, e2]
      · have u0 : ma_us s T V p k z i = 0 := if_neg c
        refine ⟨(iI (ma_cs s T V (T 3 2) p + ma_sm (i + 1) (ma_us s T V p k z)), N), ?_, rfl, hM⟩
        simp only [l_X12_seem_75, ma_sm]
        rw [u0, Int.add_zero]
        simp (disch := omega) only [qn0, qn1, qn2, qn3, qn4, qn5, qn6, qn7, qn8, qn9, qn10, qn11, qn12, qn13, qn14, qn15, qn16, qn17, qn18, qn24, qn30, qn31, qn32, qn33, qn36, qn38, qn40, qn41, qn42, qn43, qn45, qn47, qn48, qn49, qn50, qn51, qn52, qn53, qn57, qn58, qn59, qn60, qn61, qn62, qn63, qn91, qn93, qn97, qn99, qn100, qn103, qn104, qn112, qn113, qn115, qn116, qn118, qn119, qn121, qn124, qn173, qn177, qn240, qn255, qn295, qn352, qn353, qn533, qn999, qn1000, qn1023, qn6561, qn10000, qn20787, qn1000000, qn252645135, qn858993459, qn1000000000, qn1431655765, q_s1, q_s2, q_s3, q_s4, q_s5, iI_add, iI_sub, iI_mul, iI_neg, q_lt, q_le, q_eq, qz0, qz1, qz2, qz3, if_pos, if_neg, reduceIte, e0, e1])
    (by
      rintro f ⟨q, N⟩ ⟨hq, hM⟩
      simp only at hq hM
      subst hq
      have DN := D.ag w hM
      have e0 := m_rule0 DN
      refine ⟨_, ?_, N, rfl, hM⟩
      simp only [l_X12_seem_75]
      simp (disch := omega) only [qn0, qn1, qn2, qn3, qn4, qn5, qn6, qn7, qn8, qn9, qn10, qn11, qn12, qn13, qn14, qn15, qn16, qn17, qn18, qn24, qn30, qn31, qn32, qn33, qn36, qn38, qn40, qn41, qn42, qn43, qn45, qn47, qn48, qn49, qn50, qn51, qn52, qn53, qn57, qn58, qn59, qn60, qn61, qn62, qn63, qn91, qn93, qn97, qn99, qn100, qn103, qn104, qn112, qn113, qn115, qn116, qn118, qn119, qn121, qn124, qn173, qn177, qn240, qn255, qn295, qn352, qn353, qn533, qn999, qn1000, qn1023, qn6561, qn10000, qn20787, qn1000000, qn252645135, qn858993459, qn1000000000, qn1431655765, q_s1, q_s2, q_s3, q_s4, q_s5, iI_add, iI_sub, iI_mul, iI_neg, q_lt, q_le, q_eq, qz0, qz1, qz2, qz3, if_pos, if_neg, reduceIte, e0]
      rfl)
  exact ⟨M1, e, g⟩
theorem m_bs (W : ma_W s T V) (D : ma_M s T V M) {p k : Nat} (hp : (p : Int) < T 3 0) (hk : (k : Int) < T 3 5) : ∃ M1, l_X12_seem_35 (iI p) (iI k) (iI (ma_cs s T V (T 3 2) p)) gs_FU (iI (-1)) (iI 0) M = some (iI (ma_bs (ma_ut s T V p k) (T 1 1) (2 ^ (T 1 0).toNat)), iI ((2 ^ (T 1 0).toNat : Nat) : Int), M1) ∧ iv_ag M M1 := by
  have w := W.2.1
  have f3 := W.2.1.2.2.1
  have h2 := ma_2H W.2.1
  have e1 := q_2H W.2.1
  generalize 2 ^ (T 1 0).toNat = m at h2 e1 ⊢
  obtain ⟨r, e, M1, rfl, g⟩ := ma_up0 (fun f i (q : Int32 × gs_M) => l_X12_seem_35 (iI p) (iI k) (iI (ma_cs s T V (T 3 2) p)) f q.1 i q.2) (m)
    (fun i q => q.1 = iI (ma_bs (ma_ut s T V p k) (T 1 1) i) ∧ iv_ag M q.2) (fun r => ∃ M1, r = (iI (ma_bs (ma_ut s T V p k) (T 1 1) (m)), iI ((m : Nat) : Int), M1) ∧ iv_ag M M1) (iI (-1), M) (by omega) ⟨rfl, iv_ag.rf⟩
    (by
      rintro f i ⟨q, N⟩ hi ⟨hq, hM⟩
      simp only at hq hM
      subst hq
      left
      have DN := D.ag w hM
      have e0 := m_rule0 DN
      obtain ⟨N1, e3, g1⟩ := m_ut W DN (p := p) (k := k) (z := i) hp hk (by omega) (iI (ma_bs (ma_ut s T V p k) (T 1 1) i)) (iI (ma_cs s T V (T 3 2) p))
      have e2 := m_rule1 (DN.ag w g1)
      have bt := ma_ut_b W p k i
      have bb := ma_bs_b (ma_ut s T V p k) (T 1 1) i
      by_cases c1 : ma_bs (ma_ut s T V p k) (T 1 1) i = -1
      · refine ⟨(iI (ma_bs (ma_ut s T V p k) (T 1 1) (i + 1)), N1), ?_, rfl, hM.tr g1⟩
        simp only [l_X12_seem_35]
        rcases (by omega : ma_ut s T V p k i < T 1 1 ∨ T 1 1 ≤ ma_ut s T V p k i) with d | d
        · rw [ma_bs_y ⟨Or.inl c1, d⟩]
          rw [c1] at e3 ⊢
          simp (disch := omega) only [qn0, qn1, qn2, qn3, qn4, qn5, qn6, qn7, qn8, qn9, qn10, qn11, qn12, qn13, qn14, qn15, qn16, qn17, qn18, qn24, qn30, qn31, qn32, qn33, qn36, qn38, qn40, qn41, qn42, qn43, qn45, qn47, qn48, qn49, qn50, qn51, qn52, qn53, qn57, qn58, qn59, qn60, qn61, qn62, qn63, qn91, qn93, qn97, qn99, qn100, qn103, qn104, qn112, qn113, qn115, qn116, qn118, qn119, qn121, qn124, qn173, qn177, qn240, qn255, qn295, qn352, qn353, qn533, qn999, qn1000, qn1023, qn6561, qn10000, qn20787, qn1000000, qn252645135, qn858993459, qn1000000000, qn1431655765, q_s1, q_s2, q_s3, q_s4, q_s5, iI_add, iI_sub, iI_mul, iI_neg, q_lt, q_le, q_eq, qz0, qz1, qz2, qz3, if_pos, if_neg, reduceIte, e0, e1, e3, e2]
        · rw [ma_bs_n (by omega)]
          rw [c1] at e3 ⊢
          simp (disch := omega) only [qn0, qn1, qn2, qn3, qn4, qn5, qn6, qn7, qn8, qn9, qn10, qn11, qn12, qn13, qn14, qn15, qn16, qn17, qn18, qn24, qn30, qn31, qn32, qn33, qn36, qn38, qn40, qn41, qn42, qn43, qn45, qn47, qn48, qn49, qn50, qn51, qn52, qn53, qn57, qn58, qn59, qn60, qn61, qn62, qn63, qn91, qn93, qn97, qn99, qn100, qn103, qn104, qn112, qn113, qn115, qn116, qn118, qn119, qn121, qn124, qn173, qn177, qn240, qn255, qn295, qn352, qn353, qn533, qn999, qn1000, qn1023, qn6561, qn10000, qn20787, qn1000000, qn252645135, qn858993459, qn1000000000, qn1431655765, q_s1, q_s2, q_s3, q_s4, q_s5, iI_add, iI_sub, iI_mul, iI_neg, q_lt, q_le, q_eq, qz0, qz1, qz2, qz3, if_pos, if_neg, reduceIte, e0, e1, e3, e2]
      · by_cases c2 : ma_bc (iI i) < ma_bc (iI (ma_bs (ma_ut s T V p k) (T 1 1) i))
        · refine ⟨(iI (ma_bs (ma_ut s T V p k) (T 1 1) (i + 1)), N1), ?_, rfl, hM.tr g1⟩
          simp only [l_X12_seem_35]
          rcases (by omega : ma_ut s T V p k i < T 1 1 ∨ T 1 1 ≤ ma_ut s T V p k i) with d | d
          · rw [ma_bs_y ⟨Or.inr c2, d⟩]
            simp (disch := first | exact c2 | omega) only [qn0, qn1, qn2, qn3, qn4, qn5, qn6, qn7, qn8, qn9, qn10, qn11, qn12, qn13, qn14, qn15, qn16, qn17, qn18, qn24, qn30, qn31, qn32, qn33, qn36, qn38, qn40, qn41, qn42, qn43, qn45, qn47, qn48, qn49, qn50, qn51, qn52, qn53, qn57, qn58, qn59, qn60, qn61, qn62, qn63, qn91, qn93, qn97, qn99, qn100, qn103, qn104, qn112, qn113, qn115, qn116, qn118, qn119, qn121, qn124, qn173, qn177, qn240, qn255, qn295, qn352, qn353, qn533, qn999, qn1000, qn1023, qn6561, qn10000, qn20787, qn1000000, qn252645135, qn858993459, qn1000000000, qn1431655765, q_s1, q_s2, q_s3, q_s4, q_s5, iI_add, iI_sub, iI_mul, iI_neg, q_lt, q_le, q_eq, qz0, qz1, qz2, qz3, if_pos, if_neg, reduceIte, e0, e1, q_bc, e3, e2]
          · rw [ma_bs_n (by omega)]
            simp (disch := first | exact c2 | omega) only [qn0, qn1, qn2, qn3, qn4, qn5, qn6, qn7, qn8, qn9, qn10, qn11, qn12, qn13, qn14, qn15, qn16, qn17, qn18, qn24, qn30, qn31, qn32, qn33, qn36, qn38, qn40, qn41, qn42, qn43, qn45, qn47, qn48, qn49, qn50, qn51, qn52, qn53, qn57, qn58, qn59, qn60, qn61, qn62, qn63, qn91, qn93, qn97, qn99, qn100, qn103, qn104, qn112, qn113, qn115, qn116, qn118, qn119, qn121, qn124, qn173, qn177, qn240, qn255, qn295, qn352, qn353, qn533, qn999, qn1000, qn1023, qn6561, qn10000, qn20787, qn1000000, qn252645135, qn858993459, qn1000000000, qn1431655765, q_s1, q_s2, q_s3, q_s4, q_s5, iI_add, iI_sub, iI_mul, iI_neg, q_lt, q_le, q_eq, qz0, qz1, qz2, qz3, if_pos, if_neg, reduceIte, e0, e1, q_bc, e3, e2]
        · refine ⟨(iI (ma_bs (ma_ut s T V p k) (T 1 1) (i + 1)), N), ?_, rfl, hM⟩
          simp only [l_X12_seem_35]
          rw [ma_bs_n (fun h => by rcases h.1 with h | h; exact c1 h; exact c2 h)]
          simp (disch := first | exact c2 | omega) only [qn0, qn1, qn2, qn3, qn4, qn5, qn6, qn7, qn8, qn9, qn10, qn11, qn12, qn13, qn14, qn15, qn16, qn17, qn18, qn24, qn30, qn31, qn32, qn33, qn36, qn38, qn40, qn41, qn42, qn43, qn45, qn47, qn48, qn49, qn50, qn51, qn52, qn53, qn57, qn58, qn59, qn60, qn61, qn62, qn63, qn91, qn93, qn97, qn99, qn100, qn103, qn104, qn112, qn113, qn115, qn116, qn118, qn119, qn121, qn124, qn173, qn177, qn240, qn255, qn295, qn352, qn353, qn533, qn999, qn1000, qn1023, qn6561, qn10000, qn20787, qn1000000, qn252645135, qn858993459, qn1000000000, qn1431655765, q_s1, q_s2, q_s3, q_s4, q_s5, iI_add, iI_sub, iI_mul, iI_neg, q_lt, q_le, q_eq, qz0, qz1, qz2, qz3, if_pos, if_neg, reduceIte, e0, e1, q_bc])
    (by
      rintro f ⟨q, N⟩ ⟨hq, hM⟩
      simp only at hq hM
      subst hq
      have DN := D.ag w hM
      have e0 := m_rule0 DN
      refine ⟨_, ?_, N, rfl, hM⟩
      simp only [l_X12_seem_35]
      simp (disch := omega) only [qn0, qn1, qn2, qn3, qn4, qn5, qn6, qn7, qn8, qn9, qn10, qn11, qn12, qn13, qn14, qn15, qn16, qn17, qn18, qn24, qn30, qn31, qn32, qn33, qn36, qn38, qn40, qn41, qn42, qn43, qn45, qn47, qn48, qn49, qn50, qn51, qn52, qn53, qn57, qn58, qn59, qn60, qn61, qn62, qn63, qn91, qn93, qn97, qn99, qn100, qn103, qn104, qn112, qn113, qn115, qn116, qn118, qn119, qn121, qn124, qn173, qn177, qn240, qn255, qn295, qn352, qn353, qn533, qn999, qn1000, qn1023, qn6561, qn10000, qn20787, qn1000000, qn252645135, qn858993459, qn1000000000, qn1431655765, q_s1, q_s2, q_s3, q_s4, q_s5, iI_add, iI_sub, iI_mul, iI_neg, q_lt, q_le, q_eq, qz0, qz1, qz2, qz3, if_pos, if_neg, reduceIte, e0, e1])
  exact ⟨M1, e, g⟩
end Sets
theorem s_candle : gl_S_candle ma_Inv := by
  intro M L hI x1 x2 x3
  have hI0 := hI
  obtain ⟨s, T, V, W, C, D⟩ := hI
  have w := W.2.1
  obtain ⟨f1, f2, f3, f4, f5, f6, f7, f8, f9, f10, f11, f12, f13, f14, -⟩ := W.2.1
  have D1 := ma_D0 D w (iI 0)
  obtain ⟨z, z1, z2, rfl⟩ := q_any x3
  rcases ma_isC W x1 x2 with ⟨n1, n2 | ⟨n2, y, rfl, y1, y2, y3⟩⟩ | ⟨p, hp, p8, rfl, ⟨y, rfl, y1, y2⟩, n1⟩
  · refine ⟨iI (-1), M, gs_up M 147 0 (iI 0), ?_, ?_, hI0.ag (ma_g0 iv_ag.rf _)⟩
    · unfold f_X11_candle
      simp (disch := omega) only [qn0, qn1, qn2, qn3, qn4, qn5, qn6, qn7, qn8, qn9, qn10, qn11, qn12, qn13, qn14, qn15, qn16, qn17, qn18, qn24, qn30, qn31, qn32, qn33, qn36, qn38, qn40, qn41, qn42, qn43, qn45, qn47, qn48, qn49, qn50, qn51, qn52, qn53, qn57, qn58, qn59, qn60, qn61, qn62, qn63, qn91, qn93, qn97, qn99, qn100, qn103, qn104, qn112, qn113, qn115, qn116, qn118, qn119, qn121, qn124, qn173, qn177, qn240, qn255, qn295, qn352, qn353, qn533, qn999, qn1000, qn1023, qn6561, qn10000, qn20787, qn1000000, qn252645135, qn858993459, qn1000000000, qn1431655765, qj0, qj1, qj2, qj4, qj7, qj8, qj9, qj10, qj30, qj100, qj1000, qj1000000, qj1000000000, qj1442695040888963407, qj6364136223846793005, q_s1, q_s2, q_s3, q_s4, q_s5, iI_add, iI_sub, iI_mul, iI_neg, q_lt, q_le, q_eq, jI_add, jI_sub, jI_mul, jI_neg, jI_of, jI_to, j_le0, j_ge0, j_lt0, j_gt0, j_eq0, q_dvl, qz0, qz1, qz2, qz3, if_pos, if_neg, reduceIte, n2 M C]
    · unfold f_X12_candle
      simp (disch := omega) only [qn0, qn1, qn2, qn3, qn4, qn5, qn6, qn7, qn8, qn9, qn10, qn11, qn12, qn13, qn14, qn15, qn16, qn17, qn18, qn24, qn30, qn31, qn32, qn33, qn36, qn38, qn40, qn41, qn42, qn43, qn45, qn47, qn48, qn49, qn50, qn51, qn52, qn53, qn57, qn58, qn59, qn60, qn61, qn62, qn63, qn91, qn93, qn97, qn99, qn100, qn103, qn104, qn112, qn113, qn115, qn116, qn118, qn119, qn121, qn124, qn173, qn177, qn240, qn255, qn295, qn352, qn353, qn533, qn999, qn1000, qn1023, qn6561, qn10000, qn20787, qn1000000, qn252645135, qn858993459, qn1000000000, qn1431655765, qj0, qj1, qj2, qj4, qj7, qj8, qj9, qj10, qj30, qj100, qj1000, qj1000000, qj1000000000, qj1442695040888963407, qj6364136223846793005, q_s1, q_s2, q_s3, q_s4, q_s5, iI_add, iI_sub, iI_mul, iI_neg, q_lt, q_le, q_eq, jI_add, jI_sub, jI_mul, jI_neg, jI_of, jI_to, j_le0, j_ge0, j_lt0, j_gt0, j_eq0, q_dvl, qz0, qz1, qz2, qz3, if_pos, if_neg, reduceIte, n1 _ D1]
  · rcases y3 with y3 | y3
    · refine ⟨iI (-1), M, gs_up M 147 0 (iI 0), ?_, ?_, hI0.ag (ma_g0 iv_ag.rf _)⟩
      · unfold f_X11_candle
        simp (disch := omega) only [qn0, qn1, qn2, qn3, qn4, qn5, qn6, qn7, qn8, qn9, qn10, qn11, qn12, qn13, qn14, qn15, qn16, qn17, qn18, qn24, qn30, qn31, qn32, qn33, qn36, qn38, qn40, qn41, qn42, qn43, qn45, qn47, qn48, qn49, qn50, qn51, qn52, qn53, qn57, qn58, qn59, qn60, qn61, qn62, qn63, qn91, qn93, qn97, qn99, qn100, qn103, qn104, qn112, qn113, qn115, qn116, qn118, qn119, qn121, qn124, qn173, qn177, qn240, qn255, qn295, qn352, qn353, qn533, qn999, qn1000, qn1023, qn6561, qn10000, qn20787, qn1000000, qn252645135, qn858993459, qn1000000000, qn1431655765, qj0, qj1, qj2, qj4, qj7, qj8, qj9, qj10, qj30, qj100, qj1000, qj1000000, qj1000000000, qj1442695040888963407, qj6364136223846793005, q_s1, q_s2, q_s3, q_s4, q_s5, iI_add, iI_sub, iI_mul, iI_neg, q_lt, q_le, q_eq, jI_add, jI_sub, jI_mul, jI_neg, jI_of, jI_to, j_le0, j_ge0, j_lt0, j_gt0, j_eq0, q_dvl, qz0, qz1, qz2, qz3, if_pos, if_neg, reduceIte, n2 M C]
      · unfold f_X12_candle
        simp (disch := omega) only [qn0, qn1, qn2, qn3, qn4, qn5, qn6, qn7, qn8, qn9, qn10, qn11, qn12, qn13, qn14, qn15, qn16, qn17, qn18, qn24, qn30, qn31, qn32, qn33, qn36, qn38, qn40, qn41, qn42, qn43, qn45, qn47, qn48, qn49, qn50, qn51, qn52, qn53, qn57, qn58, qn59, qn60, qn61, qn62, qn63, qn91, qn93, qn97, qn99, qn100, qn103, qn104, qn112, qn113, qn115, qn116, qn118, qn119, qn121, qn124, qn173, qn177, qn240, qn255, qn295, qn352, qn353, qn533, qn999, qn1000, qn1023, qn6561, qn10000, qn20787, qn1000000, qn252645135, qn858993459, qn1000000000, qn1431655765, qj0, qj1, qj2, qj4, qj7, qj8, qj9, qj10, qj30, qj100, qj1000, qj1000000, qj1000000000, qj1442695040888963407, qj6364136223846793005, q_s1, q_s2, q_s3, q_s4, q_s5, iI_add, iI_sub, iI_mul, iI_neg, q_lt, q_le, q_eq, jI_add, jI_sub, jI_mul, jI_neg, jI_of, jI_to, j_le0, j_ge0, j_lt0, j_gt0, j_eq0, q_dvl, qz0, qz1, qz2, qz3, if_pos, if_neg, reduceIte, n1 _ D1]
    · refine ⟨iI (-1), M, gs_up M 147 0 (iI 0), ?_, ?_, hI0.ag (ma_g0 iv_ag.rf _)⟩
      · unfold f_X11_candle
        simp (disch := omega) only [qn0, qn1, qn2, qn3, qn4, qn5, qn6, qn7, qn8, qn9, qn10, qn11, qn12, qn13, qn14, qn15, qn16, qn17, qn18, qn24, qn30, qn31, qn32, qn33, qn36, qn38, qn40, qn41, qn42, qn43, qn45, qn47, qn48, qn49, qn50, qn51, qn52, qn53, qn57, qn58, qn59, qn60, qn61, qn62, qn63, qn91, qn93, qn97, qn99, qn100, qn103, qn104, qn112, qn113, qn115, qn116, qn118, qn119, qn121, qn124, qn173, qn177, qn240, qn255, qn295, qn352, qn353, qn533, qn999, qn1000, qn1023, qn6561, qn10000, qn20787, qn1000000, qn252645135, qn858993459, qn1000000000, qn1431655765, qj0, qj1, qj2, qj4, qj7, qj8, qj9, qj10, qj30, qj100, qj1000, qj1000000, qj1000000000, qj1442695040888963407, qj6364136223846793005, q_s1, q_s2, q_s3, q_s4, q_s5, iI_add, iI_sub, iI_mul, iI_neg, q_lt, q_le, q_eq, jI_add, jI_sub, jI_mul, jI_neg, jI_of, jI_to, j_le0, j_ge0, j_lt0, j_gt0, j_eq0, q_dvl, qz0, qz1, qz2, qz3, if_pos, if_neg, reduceIte, n2 M C]
      · unfold f_X12_candle
        simp (disch := omega) only [qn0, qn1, qn2, qn3, qn4, qn5, qn6, qn7, qn8, qn9, qn10, qn11, qn12, qn13, qn14, qn15, qn16, qn17, qn18, qn24, qn30, qn31, qn32, qn33, qn36, qn38, qn40, qn41, qn42, qn43, qn45, qn47, qn48, qn49, qn50, qn51, qn52, qn53, qn57, qn58, qn59, qn60, qn61, qn62, qn63, qn91, qn93, qn97, qn99, qn100, qn103, qn104, qn112, qn113, qn115, qn116, qn118, qn119, qn121, qn124, qn173, qn177, qn240, qn255, qn295, qn352, qn353, qn533, qn999, qn1000, qn1023, qn6561, qn10000, qn20787, qn1000000, qn252645135, qn858993459, qn1000000000, qn1431655765, qj0, qj1, qj2, qj4, qj7, qj8, qj9, qj10, qj30, qj100, qj1000, qj1000000, qj1000000000, qj1442695040888963407, qj6364136223846793005, q_s1, q_s2, q_s3, q_s4, q_s5, iI_add, iI_sub, iI_mul, iI_neg, q_lt, q_le, q_eq, jI_add, jI_sub, jI_mul, jI_neg, jI_of, jI_to, j_le0, j_ge0, j_lt0, j_gt0, j_eq0, q_dvl, qz0, qz1, qz2, qz3, if_pos, if_neg, reduceIte, n1 _ D1]
  rcases (by omega : z < -1 ∨ -1 ≤ z) with d | d
  · refine ⟨iI (-1), M, gs_up M 147 0 (iI 0), ?_, ?_, hI0.ag (ma_g0 iv_ag.rf _)⟩
    · unfold f_X11_candle
      simp (disch := omega) only [qn0, qn1, qn2, qn3, qn4, qn5, qn6, qn7, qn8, qn9, qn10, qn11, qn12, qn13, qn14, qn15, qn16, qn17, qn18, qn24, qn30, qn31, qn32, qn33, qn36, qn38, qn40, qn41, qn42, qn43, qn45, qn47, qn48, qn49, qn50, qn51, qn52, qn53, qn57, qn58, qn59, qn60, qn61, qn62, qn63, qn91, qn93, qn97, qn99, qn100, qn103, qn104, qn112, qn113, qn115, qn116, qn118, qn119, qn121, qn124, qn173, qn177, qn240, qn255, qn295, qn352, qn353, qn533, qn999, qn1000, qn1023, qn6561, qn10000, qn20787, qn1000000, qn252645135, qn858993459, qn1000000000, qn1431655765, qj0, qj1, qj2, qj4, qj7, qj8, qj9, qj10, qj30, qj100, qj1000, qj1000000, qj1000000000, qj1442695040888963407, qj6364136223846793005, q_s1, q_s2, q_s3, q_s4, q_s5, iI_add, iI_sub, iI_mul, iI_neg, q_lt, q_le, q_eq, jI_add, jI_sub, jI_mul, jI_neg, jI_of, jI_to, j_le0, j_ge0, j_lt0, j_gt0, j_eq0, q_dvl, qz0, qz1, qz2, qz3, if_pos, if_neg, reduceIte, c_isP w C hp]
    · unfold f_X12_candle
      simp (disch := omega) only [qn0, qn1, qn2, qn3, qn4, qn5, qn6, qn7, qn8, qn9, qn10, qn11, qn12, qn13, qn14, qn15, qn16, qn17, qn18, qn24, qn30, qn31, qn32, qn33, qn36, qn38, qn40, qn41, qn42, qn43, qn45, qn47, qn48, qn49, qn50, qn51, qn52, qn53, qn57, qn58, qn59, qn60, qn61, qn62, qn63, qn91, qn93, qn97, qn99, qn100, qn103, qn104, qn112, qn113, qn115, qn116, qn118, qn119, qn121, qn124, qn173, qn177, qn240, qn255, qn295, qn352, qn353, qn533, qn999, qn1000, qn1023, qn6561, qn10000, qn20787, qn1000000, qn252645135, qn858993459, qn1000000000, qn1431655765, qj0, qj1, qj2, qj4, qj7, qj8, qj9, qj10, qj30, qj100, qj1000, qj1000000, qj1000000000, qj1442695040888963407, qj6364136223846793005, q_s1, q_s2, q_s3, q_s4, q_s5, iI_add, iI_sub, iI_mul, iI_neg, q_lt, q_le, q_eq, jI_add, jI_sub, jI_mul, jI_neg, jI_of, jI_to, j_le0, j_ge0, j_lt0, j_gt0, j_eq0, q_dvl, qz0, qz1, qz2, qz3, if_pos, if_neg, reduceIte, n1 _ D1]
  · obtain ⟨M1, e1, g1, b1, b2, b3⟩ := c_light W C hp
    have C1 := C.co w g1
    have e2 := c_cd W C1 (p := p) (iI y) (z := z) (by omega) b1 b2 (iI p)
    have D2 := ma_D0 (D.co w g1) w (iI 0)
    obtain ⟨M2, e3, g2⟩ := m_cd W D2 hp (iI y) (z := z) (by omega)
    have n3 := n1 _ D2
    refine ⟨iI (ma_cd (ma_cb s T V p (iI y)) z (2 ^ (T 1 0).toNat) 0 0), M1, M2, ?_, ?_, hI0.co ((g1.up _ rfl).tr g2.co)⟩
    · unfold f_X11_candle
      simp (disch := omega) only [qn0, qn1, qn2, qn3, qn4, qn5, qn6, qn7, qn8, qn9, qn10, qn11, qn12, qn13, qn14, qn15, qn16, qn17, qn18, qn24, qn30, qn31, qn32, qn33, qn36, qn38, qn40, qn41, qn42, qn43, qn45, qn47, qn48, qn49, qn50, qn51, qn52, qn53, qn57, qn58, qn59, qn60, qn61, qn62, qn63, qn91, qn93, qn97, qn99, qn100, qn103, qn104, qn112, qn113, qn115, qn116, qn118, qn119, qn121, qn124, qn173, qn177, qn240, qn255, qn295, qn352, qn353, qn533, qn999, qn1000, qn1023, qn6561, qn10000, qn20787, qn1000000, qn252645135, qn858993459, qn1000000000, qn1431655765, q_s1, q_s2, q_s3, q_s4, q_s5, iI_add, iI_sub, iI_mul, iI_neg, q_lt, q_le, q_eq, qz0, qz1, qz2, qz3, if_pos, if_neg, reduceIte, c_isP w C hp, e1, e2]
    · unfold f_X12_candle
      simp (disch := omega) only [qn0, qn1, qn2, qn3, qn4, qn5, qn6, qn7, qn8, qn9, qn10, qn11, qn12, qn13, qn14, qn15, qn16, qn17, qn18, qn24, qn30, qn31, qn32, qn33, qn36, qn38, qn40, qn41, qn42, qn43, qn45, qn47, qn48, qn49, qn50, qn51, qn52, qn53, qn57, qn58, qn59, qn60, qn61, qn62, qn63, qn91, qn93, qn97, qn99, qn100, qn103, qn104, qn112, qn113, qn115, qn116, qn118, qn119, qn121, qn124, qn173, qn177, qn240, qn255, qn295, qn352, qn353, qn533, qn999, qn1000, qn1023, qn6561, qn10000, qn20787, qn1000000, qn252645135, qn858993459, qn1000000000, qn1431655765, q_s1, q_s2, q_s3, q_s4, q_s5, iI_add, iI_sub, iI_mul, iI_neg, q_lt, q_le, q_eq, qz0, qz1, qz2, qz3, if_pos, if_neg, reduceIte, n3, e3]
theorem s_likeliest : gl_S_likeliest ma_Inv := by
  intro M L hI x1 x2
  have hI0 := hI
  obtain ⟨s, T, V, W, C, D⟩ := hI
  have w := W.2.1
  obtain ⟨f1, f2, f3, f4, f5, f6, f7, f8, f9, f10, f11, f12, f13, f14, -⟩ := W.2.1
  have D1 := ma_D0 D w (iI 0)
  rcases ma_isC W x1 x2 with ⟨n1, n2 | ⟨n2, y, rfl, y1, y2, y3⟩⟩ | ⟨p, hp, p8, rfl, ⟨y, rfl, y1, y2⟩, n1⟩
  · refine ⟨iI (-1), M, gs_up M 147 0 (iI 0), ?_, ?_, hI0.ag (ma_g0 iv_ag.rf _)⟩
    · unfold f_X11_likeliest
      simp (disch := omega) only [qn0, qn1, qn2, qn3, qn4, qn5, qn6, qn7, qn8, qn9, qn10, qn11, qn12, qn13, qn14, qn15, qn16, qn17, qn18, qn24, qn30, qn31, qn32, qn33, qn36, qn38, qn40, qn41, qn42, qn43, qn45, qn47, qn48, qn49, qn50, qn51, qn52, qn53, qn57, qn58, qn59, qn60, qn61, qn62, qn63, qn91, qn93, qn97, qn99, qn100, qn103, qn104, qn112, qn113, qn115, qn116, qn118, qn119, qn121, qn124, qn173, qn177, qn240, qn255, qn295, qn352, qn353, qn533, qn999, qn1000, qn1023, qn6561, qn10000, qn20787, qn1000000, qn252645135, qn858993459, qn1000000000, qn1431655765, qj0, qj1, qj2, qj4, qj7, qj8, qj9, qj10, qj30, qj100, qj1000, qj1000000, qj1000000000, qj1442695040888963407, qj6364136223846793005, q_s1, q_s2, q_s3, q_s4, q_s5, iI_add, iI_sub, iI_mul, iI_neg, q_lt, q_le, q_eq, jI_add, jI_sub, jI_mul, jI_neg, jI_of, jI_to, j_le0, j_ge0, j_lt0, j_gt0, j_eq0, q_dvl, qz0, qz1, qz2, qz3, if_pos, if_neg, reduceIte, n2 M C]
    · unfold f_X12_likeliest
      simp (disch := omega) only [qn0, qn1, qn2, qn3, qn4, qn5, qn6, qn7, qn8, qn9, qn10, qn11, qn12, qn13, qn14, qn15, qn16, qn17, qn18, qn24, qn30, qn31, qn32, qn33, qn36, qn38, qn40, qn41, qn42, qn43, qn45, qn47, qn48, qn49, qn50, qn51, qn52, qn53, qn57, qn58, qn59, qn60, qn61, qn62, qn63, qn91, qn93, qn97, qn99, qn100, qn103, qn104, qn112, qn113, qn115, qn116, qn118, qn119, qn121, qn124, qn173, qn177, qn240, qn255, qn295, qn352, qn353, qn533, qn999, qn1000, qn1023, qn6561, qn10000, qn20787, qn1000000, qn252645135, qn858993459, qn1000000000, qn1431655765, qj0, qj1, qj2, qj4, qj7, qj8, qj9, qj10, qj30, qj100, qj1000, qj1000000, qj1000000000, qj1442695040888963407, qj6364136223846793005, q_s1, q_s2, q_s3, q_s4, q_s5, iI_add, iI_sub, iI_mul, iI_neg, q_lt, q_le, q_eq, jI_add, jI_sub, jI_mul, jI_neg, jI_of, jI_to, j_le0, j_ge0, j_lt0, j_gt0, j_eq0, q_dvl, qz0, qz1, qz2, qz3, if_pos, if_neg, reduceIte, n1 _ D1]
  · rcases y3 with y3 | y3
    · refine ⟨iI (-1), M, gs_up M 147 0 (iI 0), ?_, ?_, hI0.ag (ma_g0 iv_ag.rf _)⟩
      · unfold f_X11_likeliest
        simp (disch := omega) only [qn0, qn1, qn2, qn3, qn4, qn5, qn6, qn7, qn8, qn9, qn10, qn11, qn12, qn13, qn14, qn15, qn16, qn17, qn18, qn24, qn30, qn31, qn32, qn33, qn36, qn38, qn40, qn41, qn42, qn43, qn45, qn47, qn48, qn49, qn50, qn51, qn52, qn53, qn57, qn58, qn59, qn60, qn61, qn62, qn63, qn91, qn93, qn97, qn99, qn100, qn103, qn104, qn112, qn113, qn115, qn116, qn118, qn119, qn121, qn124, qn173, qn177, qn240, qn255, qn295, qn352, qn353, qn533, qn999, qn1000, qn1023, qn6561, qn10000, qn20787, qn1000000, qn252645135, qn858993459, qn1000000000, qn1431655765, qj0, qj1, qj2, qj4, qj7, qj8, qj9, qj10, qj30, qj100, qj1000, qj1000000, qj1000000000, qj1442695040888963407, qj6364136223846793005, q_s1, q_s2, q_s3, q_s4, q_s5, iI_add, iI_sub, iI_mul, iI_neg, q_lt, q_le, q_eq, jI_add, jI_sub, jI_mul, jI_neg, jI_of, jI_to, j_le0, j_ge0, j_lt0, j_gt0, j_eq0, q_dvl, qz0, qz1, qz2, qz3, if_pos, if_neg, reduceIte, n2 M C]
      · unfold f_X12_likeliest
        simp (disch := omega) only [qn0, qn1, qn2, qn3, qn4, qn5, qn6, qn7, qn8, qn9, qn10, qn11, qn12, qn13, qn14, qn15, qn16, qn17, qn18, qn24, qn30, qn31, qn32, qn33, qn36, qn38, qn40, qn41, qn42, qn43, qn45, qn47, qn48, qn49, qn50, qn51, qn52, qn53, qn57, qn58, qn59, qn60, qn61, qn62, qn63, qn91, qn93, qn97, qn99, qn100, qn103, qn104, qn112, qn113, qn115, qn116, qn118, qn119, qn121, qn124, qn173, qn177, qn240, qn255, qn295, qn352, qn353, qn533, qn999, qn1000, qn1023, qn6561, qn10000, qn20787, qn1000000, qn252645135, qn858993459, qn1000000000, qn1431655765, qj0, qj1, qj2, qj4, qj7, qj8, qj9, qj10, qj30, qj100, qj1000, qj1000000, qj1000000000, qj1442695040888963407, qj6364136223846793005, q_s1, q_s2, q_s3, q_s4, q_s5, iI_add, iI_sub, iI_mul, iI_neg, q_lt, q_le, q_eq, jI_add, jI_sub, jI_mul, jI_neg, jI_of, jI_to, j_le0, j_ge0, j_lt0, j_gt0, j_eq0, q_dvl, qz0, qz1, qz2, qz3, if_pos, if_neg, reduceIte, n1 _ D1]
    · refine ⟨iI (-1), M, gs_up M 147 0 (iI 0), ?_, ?_, hI0.ag (ma_g0 iv_ag.rf _)⟩
      · unfold f_X11_likeliest
        simp (disch := omega) only [qn0, qn1, qn2, qn3, qn4, qn5, qn6, qn7, qn8, qn9, qn10, qn11, qn12, qn13, qn14, qn15, qn16, qn17, qn18, qn24, qn30, qn31, qn32, qn33, qn36, qn38, qn40, qn41, qn42, qn43, qn45, qn47, qn48, qn49, qn50, qn51, qn52, qn53, qn57, qn58, qn59, qn60, qn61, qn62, qn63, qn91, qn93, qn97, qn99, qn100, qn103, qn104, qn112, qn113, qn115, qn116, qn118, qn119, qn121, qn124, qn173, qn177, qn240, qn255, qn295, qn352, qn353, qn533, qn999, qn1000, qn1023, qn6561, qn10000, qn20787, qn1000000, qn252645135, qn858993459, qn1000000000, qn1431655765, qj0, qj1, qj2, qj4, qj7, qj8, qj9, qj10, qj30, qj100, qj1000, qj1000000, qj1000000000, qj1442695040888963407, qj6364136223846793005, q_s1, q_s2, q_s3, q_s4, q_s5, iI_add, iI_sub, iI_mul, iI_neg, q_lt, q_le, q_eq, jI_add, jI_sub, jI_mul, jI_neg, jI_of, jI_to, j_le0, j_ge0, j_lt0, j_gt0, j_eq0, q_dvl, qz0, qz1, qz2, qz3, if_pos, if_neg, reduceIte, n2 M C]
      · unfold f_X12_likeliest
        simp (disch := omega) only [qn0, qn1, qn2, qn3, qn4, qn5, qn6, qn7, qn8, qn9, qn10, qn11, qn12, qn13, qn14, qn15, qn16, qn17, qn18, qn24, qn30, qn31, qn32, qn33, qn36, qn38, qn40, qn41, qn42, qn43, qn45, qn47, qn48, qn49, qn50, qn51, qn52, qn53, qn57, qn58, qn59, qn60, qn61, qn62, qn63, qn91, qn93, qn97, qn99, qn100, qn103, qn104, qn112, qn113, qn115, qn116, qn118, qn119, qn121, qn124, qn173, qn177, qn240, qn255, qn295, qn352, qn353, qn533, qn999, qn1000, qn1023, qn6561, qn10000, qn20787, qn1000000, qn252645135, qn858993459, qn1000000000, qn1431655765, qj0, qj1, qj2, qj4, qj7, qj8, qj9, qj10, qj30, qj100, qj1000, qj1000000, qj1000000000, qj1442695040888963407, qj6364136223846793005, q_s1, q_s2, q_s3, q_s4, q_s5, iI_add, iI_sub, iI_mul, iI_neg, q_lt, q_le, q_eq, jI_add, jI_sub, jI_mul, jI_neg, jI_of, jI_to, j_le0, j_ge0, j_lt0, j_gt0, j_eq0, q_dvl, qz0, qz1, qz2, qz3, if_pos, if_neg, reduceIte, n1 _ D1]
  · obtain ⟨M1, e1, g1, b1, b2, b3⟩ := c_light W C hp
    have C1 := C.co w g1
    have e2 := c_ll W C1 (p := p) (iI y) b1 b2 b3 (iI p)
    have D2 := ma_D0 (D.co w g1) w (iI 0)
    obtain ⟨M2, e3, g2⟩ := m_ll W D2 hp (iI y)
    have n3 := n1 _ D2
    refine ⟨iI (ma_ll (ma_cb s T V p (iI y)) (ma_od s T V p) (2 ^ (T 1 0).toNat)).1, M1, M2, ?_, ?_, hI0.co ((g1.up _ rfl).tr g2.co)⟩
    · unfold f_X11_likeliest
      simp (disch := omega) only [qn0, qn1, qn2, qn3, qn4, qn5, qn6, qn7, qn8, qn9, qn10, qn11, qn12, qn13, qn14, qn15, qn16, qn17, qn18, qn24, qn30, qn31, qn32, qn33, qn36, qn38, qn40, qn41, qn42, qn43, qn45, qn47, qn48, qn49, qn50, qn51, qn52, qn53, qn57, qn58, qn59, qn60, qn61, qn62, qn63, qn91, qn93, qn97, qn99, qn100, qn103, qn104, qn112, qn113, qn115, qn116, qn118, qn119, qn121, qn124, qn173, qn177, qn240, qn255, qn295, qn352, qn353, qn533, qn999, qn1000, qn1023, qn6561, qn10000, qn20787, qn1000000, qn252645135, qn858993459, qn1000000000, qn1431655765, qj0, qj1, qj2, qj4, qj7, qj8, qj9, qj10, qj30, qj100, qj1000, qj1000000, qj1000000000, qj1442695040888963407, qj6364136223846793005, q_s1, q_s2, q_s3, q_s4, q_s5, iI_add, iI_sub, iI_mul, iI_neg, q_lt, q_le, q_eq, jI_add, jI_sub, jI_mul, jI_neg, jI_of, jI_to, j_le0, j_ge0, j_lt0, j_gt0, j_eq0, q_dvl, qz0, qz1, qz2, qz3, if_pos, if_neg, reduceIte, c_isP w C hp, e1, e2]
    · unfold f_X12_likeliest
      simp (disch := omega) only [qn0, qn1, qn2, qn3, qn4, qn5, qn6, qn7, qn8, qn9, qn10, qn11, qn12, qn13, qn14, qn15, qn16, qn17, qn18, qn24, qn30, qn31, qn32, qn33, qn36, qn38, qn40, qn41, qn42, qn43, qn45, qn47, qn48, qn49, qn50, qn51, qn52, qn53, qn57, qn58, qn59, qn60, qn61, qn62, qn63, qn91, qn93, qn97, qn99, qn100, qn103, qn104, qn112, qn113, qn115, qn116, qn118, qn119, qn121, qn124, qn173, qn177, qn240, qn255, qn295, qn352, qn353, qn533, qn999, qn1000, qn1023, qn6561, qn10000, qn20787, qn1000000, qn252645135, qn858993459, qn1000000000, qn1431655765, qj0, qj1, qj2, qj4, qj7, qj8, qj9, qj10, qj30, qj100, qj1000, qj1000000, qj1000000000, qj1442695040888963407, qj6364136223846793005, q_s1, q_s2, q_s3, q_s4, q_s5, iI_add, iI_sub, iI_mul, iI_neg, q_lt, q_le, q_eq, jI_add, jI_sub, jI_mul, jI_neg, jI_of, jI_to, j_le0, j_ge0, j_lt0, j_gt0, j_eq0, q_dvl, qz0, qz1, qz2, qz3, if_pos, if_neg, reduceIte, n3, e3]
theorem s_seem : gl_S_seem ma_Inv := by
  intro M L hI x1 x2
  have hI0 := hI
  obtain ⟨s, T, V, W, C, D⟩ := hI
  have w := W.2.1
  obtain ⟨f1, f2, f3, f4, f5, f6, f7, f8, f9, f10, f11, f12, f13, f14, -⟩ := W.2.1
  have D1 := ma_D0 D w (iI 0)
  rcases ma_isP W x1 with ⟨n1, n2⟩ | ⟨p, hp, p8, rfl⟩
  · refine ⟨iI (-1), M, gs_up M 147 0 (iI 0), ?_, ?_, hI0.ag (ma_g0 iv_ag.rf _)⟩
    · unfold f_X11_seem
      simp (disch := omega) only [qn0, qn1, qn2, qn3, qn4, qn5, qn6, qn7, qn8, qn9, qn10, qn11, qn12, qn13, qn14, qn15, qn16, qn17, qn18, qn24, qn30, qn31, qn32, qn33, qn36, qn38, qn40, qn41, qn42, qn43, qn45, qn47, qn48, qn49, qn50, qn51, qn52, qn53, qn57, qn58, qn59, qn60, qn61, qn62, qn63, qn91, qn93, qn97, qn99, qn100, qn103, qn104, qn112, qn113, qn115, qn116, qn118, qn119, qn121, qn124, qn173, qn177, qn240, qn255, qn295, qn352, qn353, qn533, qn999, qn1000, qn1023, qn6561, qn10000, qn20787, qn1000000, qn252645135, qn858993459, qn1000000000, qn1431655765, qj0, qj1, qj2, qj4, qj7, qj8, qj9, qj10, qj30, qj100, qj1000, qj1000000, qj1000000000, qj1442695040888963407, qj6364136223846793005, q_s1, q_s2, q_s3, q_s4, q_s5, iI_add, iI_sub, iI_mul, iI_neg, q_lt, q_le, q_eq, jI_add, jI_sub, jI_mul, jI_neg, jI_of, jI_to, j_le0, j_ge0, j_lt0, j_gt0, j_eq0, q_dvl, qz0, qz1, qz2, qz3, if_pos, if_neg, reduceIte, n1 M C]
    · unfold f_X12_seem
      simp (disch := omega) only [qn0, qn1, qn2, qn3, qn4, qn5, qn6, qn7, qn8, qn9, qn10, qn11, qn12, qn13, qn14, qn15, qn16, qn17, qn18, qn24, qn30, qn31, qn32, qn33, qn36, qn38, qn40, qn41, qn42, qn43, qn45, qn47, qn48, qn49, qn50, qn51, qn52, qn53, qn57, qn58, qn59, qn60, qn61, qn62, qn63, qn91, qn93, qn97, qn99, qn100, qn103, qn104, qn112, qn113, qn115, qn116, qn118, qn119, qn121, qn124, qn173, qn177, qn240, qn255, qn295, qn352, qn353, qn533, qn999, qn1000, qn1023, qn6561, qn10000, qn20787, qn1000000, qn252645135, qn858993459, qn1000000000, qn1431655765, qj0, qj1, qj2, qj4, qj7, qj8, qj9, qj10, qj30, qj100, qj1000, qj1000000, qj1000000000, qj1442695040888963407, qj6364136223846793005, q_s1, q_s2, q_s3, q_s4, q_s5, iI_add, iI_sub, iI_mul, iI_neg, q_lt, q_le, q_eq, jI_add, jI_sub, jI_mul, jI_neg, jI_of, jI_to, j_le0, j_ge0, j_lt0, j_gt0, j_eq0, q_dvl, qz0, qz1, qz2, qz3, if_pos, if_neg, reduceIte, n2 _ D1]
  rcases ma_isW W x2 with ⟨n1, n2⟩ | ⟨k, hk, k4, rfl⟩
  · refine ⟨iI (-1), M, gs_up M 147 0 (iI 0), ?_, ?_, hI0.ag (ma_g0 iv_ag.rf _)⟩
    · unfold f_X11_seem
      simp (disch := omega) only [qn0, qn1, qn2, qn3, qn4, qn5, qn6, qn7, qn8, qn9, qn10, qn11, qn12, qn13, qn14, qn15, qn16, qn17, qn18, qn24, qn30, qn31, qn32, qn33, qn36, qn38, qn40, qn41, qn42, qn43, qn45, qn47, qn48, qn49, qn50, qn51, qn52, qn53, qn57, qn58, qn59, qn60, qn61, qn62, qn63, qn91, qn93, qn97, qn99, qn100, qn103, qn104, qn112, qn113, qn115, qn116, qn118, qn119, qn121, qn124, qn173, qn177, qn240, qn255, qn295, qn352, qn353, qn533, qn999, qn1000, qn1023, qn6561, qn10000, qn20787, qn1000000, qn252645135, qn858993459, qn1000000000, qn1431655765, qj0, qj1, qj2, qj4, qj7, qj8, qj9, qj10, qj30, qj100, qj1000, qj1000000, qj1000000000, qj1442695040888963407, qj6364136223846793005, q_s1, q_s2, q_s3, q_s4, q_s5, iI_add, iI_sub, iI_mul, iI_neg, q_lt, q_le, q_eq, jI_add, jI_sub, jI_mul, jI_neg, jI_of, jI_to, j_le0, j_ge0, j_lt0, j_gt0, j_eq0, q_dvl, qz0, qz1, qz2, qz3, if_pos, if_neg, reduceIte, c_isP w C hp, n1 M C]
    · unfold f_X12_seem
      simp (disch := omega) only [qn0, qn1, qn2, qn3, qn4, qn5, qn6, qn7, qn8, qn9, qn10, qn11, qn12, qn13, qn14, qn15, qn16, qn17, qn18, qn24, qn30, qn31, qn32, qn33, qn36, qn38, qn40, qn41, qn42, qn43, qn45, qn47, qn48, qn49, qn50, qn51, qn52, qn53, qn57, qn58, qn59, qn60, qn61, qn62, qn63, qn91, qn93, qn97, qn99, qn100, qn103, qn104, qn112, qn113, qn115, qn116, qn118, qn119, qn121, qn124, qn173, qn177, qn240, qn255, qn295, qn352, qn353, qn533, qn999, qn1000, qn1023, qn6561, qn10000, qn20787, qn1000000, qn252645135, qn858993459, qn1000000000, qn1431655765, qj0, qj1, qj2, qj4, qj7, qj8, qj9, qj10, qj30, qj100, qj1000, qj1000000, qj1000000000, qj1442695040888963407, qj6364136223846793005, q_s1, q_s2, q_s3, q_s4, q_s5, iI_add, iI_sub, iI_mul, iI_neg, q_lt, q_le, q_eq, jI_add, jI_sub, jI_mul, jI_neg, jI_of, jI_to, j_le0, j_ge0, j_lt0, j_gt0, j_eq0, q_dvl, qz0, qz1, qz2, qz3, if_pos, if_neg, reduceIte, m_isP w D1 hp, n2 _ D1]
  · obtain ⟨M1, e1, g1⟩ := c_case W C hp f7
    have C1 := C.ag w g1
    obtain ⟨M2, e2, g2, b2⟩ := c_s1 W C1 hp hk (iI (-1))
    have C2 := C1.co w g2
    have e3 := c_bs W C2 b2 (iI p) (iI k)
    have D2 := ma_D0 (D.co w (g1.co.tr g2)) w (iI 0)
    obtain ⟨M3, e4, g3⟩ := m_case W D2 hp f7
    have D3 := D2.ag w g3
    obtain ⟨M4, e5, g4⟩ := m_bs W D3 hp hk
    refine ⟨iI (ma_bs (ma_ut s T V p k) (T 1 1) (2 ^ (T 1 0).toNat)), M2, M4, ?_, ?_, hI0.co (((g1.co.tr g2).up _ rfl).tr (g3.tr g4).co)⟩
    · unfold f_X11_seem f_X4_holding
      simp (disch := omega) only [qn0, qn1, qn2, qn3, qn4, qn5, qn6, qn7, qn8, qn9, qn10, qn11, qn12, qn13, qn14, qn15, qn16, qn17, qn18, qn24, qn30, qn31, qn32, qn33, qn36, qn38, qn40, qn41, qn42, qn43, qn45, qn47, qn48, qn49, qn50, qn51, qn52, qn53, qn57, qn58, qn59, qn60, qn61, qn62, qn63, qn91, qn93, qn97, qn99, qn100, qn103, qn104, qn112, qn113, qn115, qn116, qn118, qn119, qn121, qn124, qn173, qn177, qn240, qn255, qn295, qn352, qn353, qn533, qn999, qn1000, qn1023, qn6561, qn10000, qn20787, qn1000000, qn252645135, qn858993459, qn1000000000, qn1431655765, q_s1, q_s2, q_s3, q_s4, q_s5, iI_add, iI_sub, iI_mul, iI_neg, q_lt, q_le, q_eq, qz0, qz1, qz2, qz3, if_pos, if_neg, reduceIte, c_isP w C hp, c_hasW w C hk, C.la, e1, e2, e3]
    · unfold f_X12_seem f_X12_caseOf
      simp (disch := omega) only [qn0, qn1, qn2, qn3, qn4, qn5, qn6, qn7, qn8, qn9, qn10, qn11, qn12, qn13, qn14, qn15, qn16, qn17, qn18, qn24, qn30, qn31, qn32, qn33, qn36, qn38, qn40, qn41, qn42, qn43, qn45, qn47, qn48, qn49, qn50, qn51, qn52, qn53, qn57, qn58, qn59, qn60, qn61, qn62, qn63, qn91, qn93, qn97, qn99, qn100, qn103, qn104, qn112, qn113, qn115, qn116, qn118, qn119, qn121, qn124, qn173, qn177, qn240, qn255, qn295, qn352, qn353, qn533, qn999, qn1000, qn1023, qn6561, qn10000, qn20787, qn1000000, qn252645135, qn858993459, qn1000000000, qn1431655765, q_s1, q_s2, q_s3, q_s4, q_s5, iI_add, iI_sub, iI_mul, iI_neg, q_lt, q_le, q_eq, qz0, qz1, qz2, qz3, if_pos, if_neg, reduceIte, m_isP w D2 hp, m_hasW w D2 hk, D2.la, e4, e5]
