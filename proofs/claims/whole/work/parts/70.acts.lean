/-! ACTS: the state is kept, then changed -/
section Acts
variable {s s' : Nat → Int} {T T' : Nat → Nat → Int} {V V' : ma_V} {M M1 M2 : gs_M}
def ma_su (s : Nat → Int) (k : Nat) (v : Int) : Nat → Int := fun j => if j = k then v else s j
theorem ma_su_eq (s : Nat → Int) (k : Nat) (v : Int) : ma_su s k v k = v := if_pos rfl
theorem ma_su_ne (s : Nat → Int) {k : Nat} (v : Int) {j : Nat} (h : j ≠ k) : ma_su s k v j = s j := if_neg h
theorem ma_su_su (s : Nat → Int) (k : Nat) (u v : Int) : ma_su (ma_su s k u) k v = ma_su s k v := by
  funext j
  unfold ma_su
  by_cases c : j = k
  · rw [if_pos c, if_pos c]
  · rw [if_neg c, if_neg c, if_neg c]
theorem ma_su_id (s : Nat → Int) (k : Nat) : ma_su s k (s k) = s := by
  funext j
  unfold ma_su
  by_cases c : j = k
  · rw [if_pos c, c]
  · rw [if_neg c]
theorem c_su (h : ma_sC s (M 10)) {k : Nat} (hk : k < 51) (v : Int) : ma_sC (ma_su s k v) (gs_up M 10 k (iI v) 10) := by
  obtain ⟨h1, h2, h3, h4, h5⟩ := h
  refine ⟨fun j hj => ?_, ?_, ?_, fun i hi => ?_, fun i hi => ?_⟩
  · by_cases c : j = k
    · subst c
      rw [gs_up_eq, ma_su_eq]
    · rw [ma_cell_ne _ _ _ _ _ _ (by omega), ma_su_ne _ _ c]
      exact h1 j hj
  · rw [ma_cell_ne _ _ _ _ _ _ (by omega), ma_su_ne _ _ (by omega)]
    exact h2
  · rw [ma_cell_ne _ _ _ _ _ _ (by omega), ma_su_ne _ _ (by omega)]
    exact h3
  · rw [ma_su_ne _ _ (by omega)] at hi
    rw [ma_cell_ne _ _ _ _ _ _ (by omega), h4 i hi]
    unfold ma_bk
    rw [ma_su_ne _ _ (by omega), ma_su_ne _ _ (by omega), ma_su_ne _ _ (by omega), ma_su_ne _ _ (by omega), ma_su_ne _ _ (by omega)]
  · rw [ma_su_ne _ _ (by omega)] at hi
    rw [ma_cell_ne _ _ _ _ _ _ (by omega), h5 i hi]
    unfold ma_lg
    rw [ma_su_ne _ _ (by omega), ma_su_ne _ _ (by omega), ma_su_ne _ _ (by omega)]
theorem m_su (h : ma_sM s (M 158)) (k : Nat) (v : Int) : ma_sM (ma_su s k v) (gs_up M 158 k (iI v) 158) := by
  intro j hj
  by_cases c : j = k
  · subst c
    rw [gs_up_eq, ma_su_eq]
  · rw [ma_cell_ne _ _ _ _ _ _ (by omega), ma_su_ne _ _ c]
    exact h j hj
def ma_rg (j : Nat) : Int := if j < 3 then 9 else 1
theorem ma_one_i {p : Nat} : ma_one s p ↔ ∀ j, j < 6 → 0 ≤ s (6 * p + j) ∧ s (6 * p + j) ≤ ma_rg j := by
  unfold ma_one
  constructor
  · intro h j hj
    rcases (by omega : j = 0 ∨ j = 1 ∨ j = 2 ∨ j = 3 ∨ j = 4 ∨ j = 5) with c | c | c | c | c | c <;> subst c <;> simp only [ma_rg] <;> simp <;> omega
  · intro h
    have h0 := h 0 (by decide)
    have h1 := h 1 (by decide)
    have h2 := h 2 (by decide)
    have h3 := h 3 (by decide)
    have h4 := h 4 (by decide)
    have h5 := h 5 (by decide)
    simp only [ma_rg, Nat.add_zero] at h0 h1 h2 h3 h4 h5
    simp at h0 h1 h2 h3 h4 h5
    omega
theorem ma_ws.su (w : ma_ws s) {p k : Nat} (hp : p < 8) (hk : k < 6) {v : Int} (hv : 0 ≤ v ∧ v ≤ ma_rg k) : ma_ws (ma_su s (6 * p + k) v) := by
  obtain ⟨h1, h2, h3, h4, h5, h6⟩ := w
  refine ⟨fun q hq => ?_, ?_, ?_, ?_, fun i hi => ?_, fun i hi => ?_⟩
  · rw [ma_one_i]
    intro j hj
    by_cases c : 6 * q + j = 6 * p + k
    · have e : j = k := by omega
      rw [c, ma_su_eq, e]
      exact hv
    · rw [ma_su_ne _ _ c]
      exact ma_one_i.1 (h1 q hq) j hj
  · rw [ma_su_ne _ _ (by omega)]; exact h2
  · rw [ma_su_ne _ _ (by omega)]; exact h3
  · rw [ma_su_ne _ _ (by omega)]; exact h4
  · rw [ma_su_ne _ _ (by omega)] at hi
    unfold ma_pg
    rw [ma_su_ne _ _ (by omega), ma_su_ne _ _ (by omega), ma_su_ne _ _ (by omega), ma_su_ne _ _ (by omega), ma_su_ne _ _ (by omega)]
    exact h5 i hi
  · rw [ma_su_ne _ _ (by omega)] at hi
    unfold ma_lr
    rw [ma_su_ne _ _ (by omega), ma_su_ne _ _ (by omega), ma_su_ne _ _ (by omega)]
    exact h6 i hi
theorem c_set {p k : Nat} (hp : p < 8) (hk : k < 6) (x : Int32) : f_X6_set M (iI p) (iI k) x = some (gs_up M 10 (6 * p + k) x) := by
  unfold f_X6_set
  rw [qn6, iI_mul, iI_add, q_wrn (6 * p + k) (by omega) (by omega) (by decide), gs_s1]
theorem m_set {p k : Nat} (hp : p < 8) (hk : k < 6) (x : Int32) : gs_wr M 158 533 (iI (6 * p + k)) x = some (gs_up M 158 (6 * p + k) x) := q_wrn (6 * p + k) (by omega) (by omega) (by decide)
theorem ma_C.su (w : ma_wT T) (C : ma_C s T V M) {k : Nat} (hk : k < 51) (v : Int) : ma_C (ma_su s k v) T V (gs_up M 10 k (iI v)) :=
  C.st2 w (fun a b _ h _ => ma_cell_ne _ _ _ _ _ _ (fun z => h z.1)) (c_su C.st hk v)
theorem ma_M.su (w : ma_wT T) (C : ma_M s T V M) (k : Nat) (v : Int) : ma_M (ma_su s k v) T V (gs_up M 158 k (iI v)) :=
  C.st2 w (fun a b _ h _ => ma_cell_ne _ _ _ _ _ _ (fun z => h z.1)) (m_su C.st k v)
/-- the first 173 cells tell all -/
theorem ma_sC.cg {c c' : Nat → Int32} (w : ma_ws s) (h : ma_sC s c) (e : ∀ k, k < 173 → c' k = c k) : ma_sC s c' := by
  obtain ⟨h1, h2, h3, h4, h5⟩ := h
  have w1 := w.2.2.1
  have w2 := w.2.2.2.1
  refine ⟨fun j hj => ?_, ?_, ?_, fun i hi => ?_, fun i hi => ?_⟩
  · rw [e j (by omega)]; exact h1 j hj
  · rw [e _ (by decide)]; exact h2
  · rw [e _ (by decide)]; exact h3
  · rw [e _ (by omega)]; exact h4 i hi
  · rw [e _ (by omega)]; exact h5 i hi
theorem c_cpyF (M : gs_M) (r0 r1 : Nat) : f_X6_copyFrom M r0 r1 = some (gs_row M (r0 + 1) (va_cpy (M (r1 + 1)) (M (r0 + 1)) 0 0 173)) := by
  unfold f_X6_copyFrom gs_cpy
  rw [if_neg (by decide), gs_s1]
  rfl
theorem ma_cpy0 {f g : Nat → Int32} {k : Nat} (hk : k < 173) : va_cpy f g 0 0 173 k = f k := by
  rw [pk_cpy_in (by omega) (by omega)]
  congr 1
  omega
def ma_push (T : Nat → Nat → Int) (s : Nat → Int) : Nat → Nat → Int := fun x => if x = 3 then (fun y => if y = 9 then (if T 3 9 < 40 then T 3 9 + 1 else 40) else T 3 y) else if x < 10 then T x else if T 3 9 < 40 then (if (x : Int) = 10 + T 3 9 then s else T x) else (if x = 49 then s else T (x + 1))
theorem ma_push_a {t : Nat} (h : T 3 9 < 40) (ht : (t : Int) ≠ T 3 9) : ma_push T s (10 + t) = T (10 + t) := by
  unfold ma_push
  rw [if_neg (by omega), if_neg (by omega), if_pos h, if_neg (by omega)]
theorem ma_push_b {t : Nat} (h : T 3 9 < 40) (ht : (t : Int) = T 3 9) : ma_push T s (10 + t) = s := by
  unfold ma_push
  rw [if_neg (by omega), if_neg (by omega), if_pos h, if_pos (by omega)]
theorem ma_push_c {t : Nat} (h : ¬ T 3 9 < 40) (ht : t ≠ 39) : ma_push T s (10 + t) = T (10 + (t + 1)) := by
  unfold ma_push
  rw [if_neg (by omega), if_neg (by omega), if_neg h, if_neg (by omega)]
  rfl
theorem ma_push_d {t : Nat} (h : ¬ T 3 9 < 40) (ht : t = 39) : ma_push T s (10 + t) = s := by
  unfold ma_push
  rw [if_neg (by omega), if_neg (by omega), if_neg h, if_pos (by omega)]
theorem ma_push_9 : ma_push T s 3 9 = if T 3 9 < 40 then T 3 9 + 1 else 40 := rfl
theorem ma_wT.push (w : ma_wT T) (hs : ma_ws s) : ma_wT (ma_push T s) := by
  obtain ⟨h1, h2, h3, h4, h5, h6, h7, h8, h9, h10, h11, h12, h13, h14, h15, h16, h17, h18, h19⟩ := w
  refine ⟨h1, h2, h3, h4, h5, h6, h7, h8, h9, h10, h11, h12, h13, ?_, h15, h16, h17, h18, fun t ht => ?_⟩
  · rw [ma_push_9]
    split <;> omega
  · rw [ma_push_9] at ht
    by_cases c : T 3 9 < 40
    · rw [if_pos c] at ht
      by_cases d : (t : Int) = T 3 9
      · rw [ma_push_b c d]; exact hs
      · rw [ma_push_a c d]; exact h19 t (by omega)
    · rw [if_neg c] at ht
      by_cases d : t = 39
      · rw [ma_push_d c d]; exact hs
      · rw [ma_push_c c d]; exact h19 (t + 1) (by omega)
theorem ma_W.push (W : ma_W s T V) : ma_W s (ma_push T s) V := ⟨W.1, W.2.1.push W.1, W.2.2⟩
theorem c_keep (W : ma_W s T V) (C : ma_C s T V M) : ∃ M1, f_X0_keep M = some M1 ∧ ma_C s (ma_push T s) V M1 ∧ iv_hi M M1 := by
  have w := W.2.1
  obtain ⟨f1, f2, f3, f4, f5, f6, f7, f8, f9, f10, f11, f12, f13, f14, -⟩ := W.2.1
  obtain ⟨nx, n40, e1, -⟩ := C.at
  have e2 : gs_rdq 14 40 (iI nx) = some (15 + 2 * nx) := gs_rdq_nI (r := 14) (k := 40) n40 (by decide)
  have e3 : ∀ f, gs_row M (15 + 2 * nx + 1) f 13 = M 13 := fun f => ma_rowr_ne _ _ _ _ (by omega)
  have e4 : ∀ f v, gs_up (gs_row M (15 + 2 * nx + 1) f) 13 1 v 13 2 = iI (T 3 9) := fun f v => by
    rw [ma_cell_ne _ _ _ _ _ _ (by decide), e3, C.ac]
  refine ⟨gs_up (gs_up (gs_row M (15 + 2 * nx + 1) (va_cpy (M 10) (M (15 + 2 * nx + 1)) 0 0 173)) 13 1 (iI ((nx + 1) % 40))) 13 2 (iI (if T 3 9 < 40 then T 3 9 + 1 else 40)), ?_, ?_, ?_⟩
  · unfold f_X0_keep
    rcases (by omega : T 3 9 < 40 ∨ T 3 9 = 40) with c | c <;> simp (disch := omega) only [qn0, qn1, qn2, qn3, qn4, qn5, qn6, qn7, qn8, qn9, qn10, qn11, qn12, qn13, qn14, qn15, qn16, qn17, qn18, qn24, qn30, qn31, qn32, qn33, qn36, qn38, qn40, qn41, qn42, qn43, qn45, qn47, qn48, qn49, qn50, qn51, qn52, qn53, qn57, qn58, qn59, qn60, qn61, qn62, qn63, qn91, qn93, qn97, qn99, qn100, qn103, qn104, qn112, qn113, qn115, qn116, qn118, qn119, qn121, qn124, qn173, qn177, qn240, qn255, qn295, qn352, qn353, qn533, qn999, qn1000, qn1023, qn6561, qn10000, qn20787, qn1000000, qn252645135, qn858993459, qn1000000000, qn1431655765, q_s1, q_s2, q_s3, q_s4, q_s5, iI_add, iI_sub, iI_mul, iI_neg, q_lt, q_le, q_eq, qz0, qz1, qz2, qz3, if_pos, if_neg, reduceIte, e1, e2, c_cpyF, e3, q_rm, e4]
  · have hc : ma_sC s (va_cpy (M 10) (M (15 + 2 * nx + 1)) 0 0 173) := C.st.cg W.1 (fun k hk => ma_cpy0 hk)
    have ac := C.ac
    obtain ⟨h1, h2, h3, h4, h5, h6, h7, h8, h9, h10, h11, h12, h13, h14, h15, h16, ⟨ny, h17, h18, h19⟩, h20, h21⟩ := C
    have en : ny = nx := by
      have : iI ny = iI nx := h18.symm.trans e1
      rw [q_eq (by omega)] at this
      omega
    subst en
    have R : ∀ (f : Nat → Int32) (u v : Int32) (x : Nat), x ≠ 13 → x ≠ 15 + 2 * ny + 1 → gs_up (gs_up (gs_row M (15 + 2 * ny + 1) f) 13 1 u) 13 2 v x = M x := fun f u v x h1 h2 => by
      rw [ma_row_ne _ _ _ _ _ h1, ma_row_ne _ _ _ _ _ h1, ma_rowr_ne _ _ _ _ h2]
    refine ⟨?_, ?_, ?_, ?_, ?_, ?_, ?_, ?_, ?_, ?_, ?_, ?_, ?_, ?_, ?_, ?_, ⟨(ny + 1) % 40, Nat.mod_lt _ (by decide), ?_, ?_⟩, ?_, ?_⟩
    · rw [R _ _ _ 3 (by decide) (by omega)]; exact h1
    · rw [R _ _ _ 4 (by decide) (by omega)]; exact h2
    · rw [R _ _ _ 5 (by decide) (by omega)]; exact h3
    · rw [R _ _ _ 0 (by decide) (by omega)]; exact h4
    · rw [R _ _ _ 105 (by decide) (by omega)]; exact h5
    · rw [R _ _ _ 95 (by decide) (by omega)]; exact h6
    · rw [R _ _ _ 105 (by decide) (by omega)]; exact h7
    · rw [R _ _ _ 95 (by decide) (by omega)]; exact h8
    · rw [R _ _ _ 134 (by decide) (by omega)]; exact h9
    · rw [R _ _ _ 1 (by decide) (by omega)]; exact h10
    · rw [R _ _ _ 0 (by decide) (by omega)]; exact h11
    · rw [gs_up_eq]; rfl
    · rw [R _ _ _ 2 (by decide) (by omega)]; exact h13
    · rw [R _ _ _ 96 (by decide) (by omega)]; exact h14
    · rw [R _ _ _ 135 (by decide) (by omega), R _ _ _ 136 (by decide) (by omega), R _ _ _ 137 (by decide) (by omega)]; exact h15
    · rw [R _ _ _ 12 (by decide) (by omega)]; exact h16
    · rw [ma_cell_ne _ _ _ _ _ _ (by decide), gs_up_eq]
      congr 1
    · intro t ht
      rw [ma_push_9] at ht ⊢
      rcases (by omega : T 3 9 < 40 ∨ T 3 9 = 40) with c | c
      · rw [if_pos c] at ht ⊢
        rcases (by omega : (t : Int) = T 3 9 ∨ (t : Int) < T 3 9) with d | d
        · rw [ma_push_b c d, show 16 + 2 * (((ny + 1) % 40 + 40 - (T 3 9 + 1).toNat + t) % 40) = 15 + 2 * ny + 1 by omega, ma_row_ne _ _ _ _ _ (by omega), ma_row_ne _ _ _ _ _ (by omega), ma_rowr_eq]
          exact hc
        · rw [ma_push_a c (by omega), show 16 + 2 * (((ny + 1) % 40 + 40 - (T 3 9 + 1).toNat + t) % 40) = 16 + 2 * ((ny + 40 - (T 3 9).toNat + t) % 40) by omega, R _ _ _ _ (by omega) (by omega)]
          exact h19 t d
      · rw [if_neg (by omega)] at ht ⊢
        rcases (by omega : t = 39 ∨ t < 39) with d | d
        · rw [ma_push_d (by omega) d, show 16 + 2 * (((ny + 1) % 40 + 40 - (40 : Int).toNat + t) % 40) = 15 + 2 * ny + 1 by omega, ma_row_ne _ _ _ _ _ (by omega), ma_row_ne _ _ _ _ _ (by omega), ma_rowr_eq]
          exact hc
        · rw [ma_push_c (by omega) (by omega), show 16 + 2 * (((ny + 1) % 40 + 40 - (40 : Int).toNat + t) % 40) = 16 + 2 * ((ny + 40 - (T 3 9).toNat + (t + 1)) % 40) by omega, R _ _ _ _ (by omega) (by omega)]
          exact h19 (t + 1) (by omega)
    · intro k hk
      have hk4 : (k : Int) < T 3 4 := hk
      exact (h20 k hk).cg (fun r r1 r2 => R _ _ _ r (by omega) (by omega))
    · rw [R _ _ _ 10 (by decide) (by omega)]; exact h21
  · exact ((iv_hi.rf.row _ (by omega)).up _ (by decide)).up _ (by decide)
/-- a loop that copies cells upwards, one by one -/
theorem ma_cpl (F : Nat → Int32 → gs_M → Option (Int32 × gs_M)) (i0 n ra oa rb ob : Nat) (M : gs_M) (h : ra ≠ rb ∨ ob ≤ oa) (hi : i0 ≤ n) (hn : n < 30000)
    (hs : ∀ f i (N : gs_M), i0 ≤ i → i < n → (∀ a b, a ≠ rb → N a b = M a b) → F (f + 1) (iI i) N = F f (iI ((i : Int) + 1)) (gs_up N rb (ob + i) (N ra (oa + i))))
    (he : ∀ f (N : gs_M), (∀ a b, a ≠ rb → N a b = M a b) → F (f + 1) (iI n) N = some (iI n, N)) :
    ∃ N, F gs_FU (iI i0) M = some (iI n, N) ∧ ∀ a b, N a b = if a = rb ∧ ob + i0 ≤ b ∧ b < ob + n then M ra (oa + (b - ob)) else M a b := by
  obtain ⟨r, e, N, rfl, hN⟩ := ma_up F n (fun i N => i0 ≤ i ∧ ∀ a b, N a b = if a = rb ∧ ob + i0 ≤ b ∧ b < ob + i then M ra (oa + (b - ob)) else M a b)
    (fun r => ∃ N, r = (iI n, N) ∧ ∀ a b, N a b = if a = rb ∧ ob + i0 ≤ b ∧ b < ob + n then M ra (oa + (b - ob)) else M a b)
    (by
      intro f i N hi ⟨h0, hP⟩
      left
      refine ⟨_, hs f i N h0 hi (fun a b hab => by rw [hP, if_neg (fun z => hab z.1)]), by omega, fun a b => ?_⟩
      rw [gs_up_at]
      by_cases c : a = rb ∧ b = ob + i
      · obtain ⟨rfl, rfl⟩ := c
        rw [if_pos ⟨rfl, rfl⟩, if_pos ⟨rfl, by omega, by omega⟩, hP, if_neg (fun z => by rcases h with h | h <;> omega)]
        congr 1
        omega
      · rw [if_neg c, hP]
        by_cases d : a = rb ∧ ob + i0 ≤ b ∧ b < ob + i
        · rw [if_pos d, if_pos ⟨d.1, d.2.1, by omega⟩]
        · rw [if_neg d, if_neg (fun z => by omega)])
    (by
      intro f N ⟨h0, hP⟩
      exact ⟨_, he f N (fun a b hab => by rw [hP, if_neg (fun z => hab z.1)]), N, rfl, hP⟩)
    (n - i0) i0 M gs_FU (by omega) ⟨by omega, fun a b => by rw [if_neg (fun z => by omega)]⟩ (by show n - i0 < 30000; omega)
  exact ⟨N, e, hN⟩
theorem m_rem (W : ma_W s T V) (D : ma_M s T V M) : ∃ M1, f_X12_remember M = some M1 ∧ ma_M s (ma_push T s) V M1 ∧ iv_lo M M1 := by
  obtain ⟨f1, f2, f3, f4, f5, f6, f7, f8, f9, f10, f11, f12, f13, f14, -⟩ := W.2.1
  have ac := D.ac
  /- the second loop, at A -/
  have two : ∀ (A : Nat) (N : gs_M), A < 40 → N 147 35 = iI A → ∃ N1, l_X12_remember_52 gs_FU (iI 0) N = some (iI 533, N1) ∧ ∀ a b, N1 a b = if a = 160 ∧ 533 * A + 0 ≤ b ∧ b < 533 * A + 533 then N 158 (0 + (b - 533 * A)) else N a b := by
    intro A N hA eA
    exact ma_cpl l_X12_remember_52 0 533 158 0 160 (533 * A) N (Or.inl (by decide)) (by decide) (by decide)
      (by
        intro f i N' _ hi hN
        have eA' : N' 147 35 = iI A := by rw [hN _ _ (by decide), eA]
        have e1 : gs_rd N' 158 533 (iI i) = some (N' 158 (0 + i)) := by rw [q_rdn i rfl hi (by decide), Nat.zero_add]
        have e2 : ∀ v, gs_wr N' 160 21320 (iI (533 * A + i)) v = some (gs_up N' 160 (533 * A + i) v) := fun v => q_wrn _ (by omega) (by omega) (by decide)
        simp only [l_X12_remember_52]
        simp (disch := omega) only [qn0, qn1, qn2, qn3, qn4, qn5, qn6, qn7, qn8, qn9, qn10, qn11, qn12, qn13, qn14, qn15, qn16, qn17, qn18, qn24, qn30, qn31, qn32, qn33, qn36, qn38, qn40, qn41, qn42, qn43, qn45, qn47, qn48, qn49, qn50, qn51, qn52, qn53, qn57, qn58, qn59, qn60, qn61, qn62, qn63, qn91, qn93, qn97, qn99, qn100, qn103, qn104, qn112, qn113, qn115, qn116, qn118, qn119, qn121, qn124, qn173, qn177, qn240, qn255, qn295, qn352, qn353, qn533, qn999, qn1000, qn1023, qn6561, qn10000, qn20787, qn1000000, qn252645135, qn858993459, qn1000000000, qn1431655765, q_s1, q_s2, q_s3, q_s4, q_s5, iI_add, iI_sub, iI_mul, iI_neg, q_lt, q_le, q_eq, qz0, qz1, qz2, qz3, if_pos, if_neg, reduceIte, e1, eA', e2])
      (by
        intro f N' hN
        simp only [l_X12_remember_52]
        simp (disch := omega) only [qn0, qn1, qn2, qn3, qn4, qn5, qn6, qn7, qn8, qn9, qn10, qn11, qn12, qn13, qn14, qn15, qn16, qn17, qn18, qn24, qn30, qn31, qn32, qn33, qn36, qn38, qn40, qn41, qn42, qn43, qn45, qn47, qn48, qn49, qn50, qn51, qn52, qn53, qn57, qn58, qn59, qn60, qn61, qn62, qn63, qn91, qn93, qn97, qn99, qn100, qn103, qn104, qn112, qn113, qn115, qn116, qn118, qn119, qn121, qn124, qn173, qn177, qn240, qn255, qn295, qn352, qn353, qn533, qn999, qn1000, qn1023, qn6561, qn10000, qn20787, qn1000000, qn252645135, qn858993459, qn1000000000, qn1431655765, q_s1, q_s2, q_s3, q_s4, q_s5, iI_add, iI_sub, iI_mul, iI_neg, q_lt, q_le, q_eq, qz0, qz1, qz2, qz3, if_pos, if_neg, reduceIte])
  by_cases c : T 3 9 < 40
  · obtain ⟨A, hA⟩ : ∃ A : Nat, T 3 9 = A := ⟨(T 3 9).toNat, by omega⟩
    rw [hA] at ac
    obtain ⟨N1, e1, h1⟩ := two A M (by omega) ac
    have eA' : N1 147 35 = iI A := by rw [h1, if_neg (by simp), ac]
    refine ⟨gs_up N1 147 35 (iI (A + 1)), ?_, ?_, ?_⟩
    · unfold f_X12_remember
      simp (disch := omega) only [qn0, qn1, qn2, qn3, qn4, qn5, qn6, qn7, qn8, qn9, qn10, qn11, qn12, qn13, qn14, qn15, qn16, qn17, qn18, qn24, qn30, qn31, qn32, qn33, qn36, qn38, qn40, qn41, qn42, qn43, qn45, qn47, qn48, qn49, qn50, qn51, qn52, qn53, qn57, qn58, qn59, qn60, qn61, qn62, qn63, qn91, qn93, qn97, qn99, qn100, qn103, qn104, qn112, qn113, qn115, qn116, qn118, qn119, qn121, qn124, qn173, qn177, qn240, qn255, qn295, qn352, qn353, qn533, qn999, qn1000, qn1023, qn6561, qn10000, qn20787, qn1000000, qn252645135, qn858993459, qn1000000000, qn1431655765, q_s1, q_s2, q_s3, q_s4, q_s5, iI_add, iI_sub, iI_mul, iI_neg, q_lt, q_le, q_eq, qz0, qz1, qz2, qz3, if_pos, if_neg, reduceIte, ac, e1, eA']
    · have R : ∀ x, x ≠ 160 → x ≠ 147 → gs_up N1 147 35 (iI (A + 1)) x = M x := fun x h2 h3 => by
        rw [ma_row_ne _ _ _ _ _ h3]
        funext y
        rw [h1, if_neg (fun z => h2 z.1)]
      have R2 : ∀ y, y ≠ 35 → gs_up N1 147 35 (iI (A + 1)) 147 y = M 147 y := fun y h2 => by
        rw [ma_cell_ne _ _ _ _ _ _ (fun z => h2 z.2), h1, if_neg (by simp)]
      obtain ⟨h1', h2, h3, h4, h5, h6, h7, h8, h9, h10, h11, h12, h13, h14, h15, h16, h17, h18, h19⟩ := D
      refine ⟨?_, ?_, ?_, ?_, ?_, ?_, ?_, ?_, ?_, ?_, ?_, ?_, ?_, ?_, ?_, ?_, ?_, ?_, ?_⟩
      · rw [R2 24 (by decide)]; exact h1'
      · rw [R 152 (by decide) (by decide)]; exact h2
      · rw [R 154 (by decide) (by decide)]; exact h3
      · rw [R2 31 (by decide)]; exact h4
      · rw [R2 29 (by decide)]; exact h5
      · rw [R2 30 (by decide)]; exact h6
      · rw [R2 7 (by decide)]; exact h7
      · rw [R2 26 (by decide)]; exact h8
      · rw [R2 40 (by decide)]; exact h9
      · rw [R2 6 (by decide)]; exact h10
      · rw [R2 46 (by decide)]; exact h11
      · rw [gs_up_eq, ma_push_9, if_pos c, hA]
      · rw [R 148 (by decide) (by decide)]; exact h13
      · rw [R 156 (by decide) (by decide), R 157 (by decide) (by decide)]; exact h14
      · rw [R 162 (by decide) (by decide), R 163 (by decide) (by decide), R 164 (by decide) (by decide)]; exact h15
      · rw [R 169 (by decide) (by decide)]; exact h16
      · intro t ht
        rw [ma_push_9, if_pos c] at ht
        intro k hk
        show gs_up N1 147 35 (iI (A + 1)) 160 (533 * t + k) = _
        rw [ma_row_ne _ _ _ _ _ (by decide), h1]
        rcases (by omega : (t : Int) = T 3 9 ∨ (t : Int) < T 3 9) with d | d
        · rw [ma_push_b c d, if_pos ⟨rfl, by omega, by omega⟩, show 0 + (533 * t + k - 533 * A) = k by omega]
          exact h19 k hk
        · rw [ma_push_a c (by omega), if_neg (fun z => by omega)]
          exact h17 t d k hk
      · exact fun k hk => (h18 k hk).cg (R 149 (by decide) (by decide)) (R 150 (by decide) (by decide))
      · rw [R 158 (by decide) (by decide)]; exact h19
    · intro a b h2 h3
      rw [ma_cell_ne _ _ _ _ _ _ (by omega), h1, if_neg (fun z => by omega)]
  · have h40 : T 3 9 = 40 := by omega
    rw [h40] at ac
    obtain ⟨N0, e0, h0⟩ := ma_cpl l_X12_remember_11 0 20787 160 533 160 0 M (Or.inr (by decide)) (by decide) (by decide)
      (by
        intro f i N' _ hi hN
        have e1 : gs_rd N' 160 21320 (iI (i + 533)) = some (N' 160 (533 + i)) := q_rdn (533 + i) (by omega) (by omega) (by decide)
        have e2 : ∀ v, gs_wr N' 160 21320 (iI i) v = some (gs_up N' 160 (0 + i) v) := fun v => q_wrn (0 + i) (by omega) (by omega) (by decide)
        simp only [l_X12_remember_11]
        simp (disch := omega) only [qn0, qn1, qn2, qn3, qn4, qn5, qn6, qn7, qn8, qn9, qn10, qn11, qn12, qn13, qn14, qn15, qn16, qn17, qn18, qn24, qn30, qn31, qn32, qn33, qn36, qn38, qn40, qn41, qn42, qn43, qn45, qn47, qn48, qn49, qn50, qn51, qn52, qn53, qn57, qn58, qn59, qn60, qn61, qn62, qn63, qn91, qn93, qn97, qn99, qn100, qn103, qn104, qn112, qn113, qn115, qn116, qn118, qn119, qn121, qn124, qn173, qn177, qn240, qn255, qn295, qn352, qn353, qn533, qn999, qn1000, qn1023, qn6561, qn10000, qn20787, qn1000000, qn252645135, qn858993459, qn1000000000, qn1431655765, q_s1, q_s2, q_s3, q_s4, q_s5, iI_add, iI_sub, iI_mul, iI_neg, q_lt, q_le, q_eq, qz0, qz1, qz2, qz3, if_pos, if_neg, reduceIte, e1, e2])
      (by
        intro f N' hN
        simp only [l_X12_remember_11]
        simp (disch := omega) only [qn0, qn1, qn2, qn3, qn4, qn5, qn6, qn7, qn8, qn9, qn10, qn11, qn12, qn13, qn14, qn15, qn16, qn17, qn18, qn24, qn30, qn31, qn32, qn33, qn36, qn38, qn40, qn41, qn42, qn43, qn45, qn47, qn48, qn49, qn50, qn51, qn52, qn53, qn57, qn58, qn59, qn60, qn61, qn62, qn63, qn91, qn93, qn97, qn99, qn100, qn103, qn104, qn112, qn113, qn115, qn116, qn118, qn119, qn121, qn124, qn173, qn177, qn240, qn255, qn295, qn352, qn353, qn533, qn999, qn1000, qn1023, qn6561, qn10000, qn20787, qn1000000, qn252645135, qn858993459, qn1000000000, qn1431655765, q_s1, q_s2, q_s3, q_s4, q_s5, iI_add, iI_sub, iI_mul, iI_neg, q_lt, q_le, q_eq, qz0, qz1, qz2, qz3, if_pos, if_neg, reduceIte])
    have e0' : l_X12_remember_11 gs_FU (iI 0) M = some (iI 20787, N0) := e0
    have eA0 : N0 147 35 = iI 40 := by rw [h0, if_neg (by simp), ac]
    obtain ⟨N1, e1, h1⟩ := two 39 (gs_up N0 147 35 (iI 39)) (by decide) (gs_up_eq _ _ _ _)
    have eA' : N1 147 35 = iI 39 := by rw [h1, if_neg (by simp), gs_up_eq]
    refine ⟨gs_up N1 147 35 (iI 40), ?_, ?_, ?_⟩
    · unfold f_X12_remember
      simp (disch := omega) only [qn0, qn1, qn2, qn3, qn4, qn5, qn6, qn7, qn8, qn9, qn10, qn11, qn12, qn13, qn14, qn15, qn16, qn17, qn18, qn24, qn30, qn31, qn32, qn33, qn36, qn38, qn40, qn41, qn42, qn43, qn45, qn47, qn48, qn49, qn50, qn51, qn52, qn53, qn57, qn58, qn59, qn60, qn61, qn62, qn63, qn91, qn93, qn97, qn99, qn100, qn103, qn104, qn112, qn113, qn115, qn116, qn118, qn119, qn121, qn124, qn173, qn177, qn240, qn255, qn295, qn352, qn353, qn533, qn999, qn1000, qn1023, qn6561, qn10000, qn20787, qn1000000, qn252645135, qn858993459, qn1000000000, qn1431655765, q_s1, q_s2, q_s3, q_s4, q_s5, iI_add, iI_sub, iI_mul, iI_neg, q_lt, q_le, q_eq, qz0, qz1, qz2, qz3, if_pos, if_neg, reduceIte, ac, e0', eA0, Int.reduceSub, e1, eA', Int.reduceAdd]
    · have R : ∀ x, x ≠ 160 → x ≠ 147 → gs_up N1 147 35 (iI 40) x = M x := fun x h2 h3 => by
        rw [ma_row_ne _ _ _ _ _ h3]
        funext y
        rw [h1, if_neg (fun z => h2 z.1), ma_cell_ne _ _ _ _ _ _ (fun z => h3 z.1), h0, if_neg (fun z => h2 z.1)]
      have R2 : ∀ y, y ≠ 35 → gs_up N1 147 35 (iI 40) 147 y = M 147 y := fun y h2 => by
        rw [ma_cell_ne _ _ _ _ _ _ (fun z => h2 z.2), h1, if_neg (by simp), ma_cell_ne _ _ _ _ _ _ (fun z => h2 z.2), h0, if_neg (by simp)]
      obtain ⟨h1', h2, h3, h4, h5, h6, h7, h8, h9, h10, h11, h12, h13, h14, h15, h16, h17, h18, h19⟩ := D
      refine ⟨?_, ?_, ?_, ?_, ?_, ?_, ?_, ?_, ?_, ?_, ?_, ?_, ?_, ?_, ?_, ?_, ?_, ?_, ?_⟩
      · rw [R2 24 (by decide)]; exact h1'
      · rw [R 152 (by decide) (by decide)]; exact h2
      · rw [R 154 (by decide) (by decide)]; exact h3
      · rw [R2 31 (by decide)]; exact h4
      · rw [R2 29 (by decide)]; exact h5
      · rw [R2 30 (by decide)]; exact h6
      · rw [R2 7 (by decide)]; exact h7
      · rw [R2 26 (by decide)]; exact h8
      · rw [R2 40 (by decide)]; exact h9
      · rw [R2 6 (by decide)]; exact h10
      · rw [R2 46 (by decide)]; exact h11
      · rw [gs_up_eq, ma_push_9, if_neg c]
      · rw [R 148 (by decide) (by decide)]; exact h13
      · rw [R 156 (by decide) (by decide), R 157 (by decide) (by decide)]; exact h14
      · rw [R 162 (by decide) (by decide), R 163 (by decide) (by decide), R 164 (by decide) (by decide)]; exact h15
      · rw [R 169 (by decide) (by decide)]; exact h16
      · intro t ht
        rw [ma_push_9, if_neg c] at ht
        intro k hk
        show gs_up N1 147 35 (iI 40) 160 (533 * t + k) = _
        rw [ma_row_ne _ _ _ _ _ (by decide), h1]
        rcases (by omega : t = 39 ∨ t < 39) with d | d
        · rw [ma_push_d c d, if_pos ⟨rfl, by omega, by omega⟩, show 0 + (533 * t + k - 533 * 39) = k by omega, ma_row_ne _ _ _ _ _ (by decide), h0, if_neg (by simp)]
          exact h19 k hk
        · rw [ma_push_c c (by omega), if_neg (fun z => by omega), ma_row_ne _ _ _ _ _ (by decide), h0, if_pos ⟨rfl, by omega, by omega⟩, show 533 + (533 * t + k - 0) = 533 * (t + 1) + k by omega]
          exact h17 (t + 1) (by omega) k hk
      · exact fun k hk => (h18 k hk).cg (R 149 (by decide) (by decide)) (R 150 (by decide) (by decide))
      · rw [R 158 (by decide) (by decide)]; exact h19
    · intro a b h2 h3
      rw [ma_cell_ne _ _ _ _ _ _ (by omega), h1, if_neg (fun z => by omega), ma_cell_ne _ _ _ _ _ _ (by omega), h0, if_neg (fun z => by omega)]
theorem ma_rg_b (k : Nat) : 1 ≤ ma_rg k ∧ ma_rg k ≤ 9 := by
  unfold ma_rg
  split <;> omega
/-- an ACT that sets one cell of a PERSON -/
theorem ma_act1 (W : ma_W s T V) (C : ma_C s T V M) (D : ma_M s T V M) (L : gs_L) {p k : Nat} (hp : p < 8) (hk : k < 6) {v : Int} (hv : 0 ≤ v ∧ v ≤ ma_rg k) : ∃ M1 M3, f_X0_keep M = some M1 ∧ ma_M s T V (gs_up (gs_up M1 10 (6 * p + k) (iI v)) 147 0 (iI 0)) ∧ f_X12_remember (gs_up (gs_up M1 10 (6 * p + k) (iI v)) 147 0 (iI 0)) = some M3 ∧ ma_M s (ma_push T s) V M3 ∧ ma_Inv (gs_up M3 158 (6 * p + k) (iI v)) L := by
  have w := W.2.1
  have w' := W.push.2.1
  obtain ⟨M1, e1, C1, g1⟩ := c_keep W C
  have D1 := ma_D0 (D.hi w (g1.up (i := 10) (k := 6 * p + k) (iI v) (by decide))) w (iI 0)
  obtain ⟨M3, e3, D3, g3⟩ := m_rem W D1
  have C2 := C1.su w' (k := 6 * p + k) (by omega) v
  exact ⟨M1, M3, e1, D1, e3, D3, ma_su s (6 * p + k) v, ma_push T s, V, ⟨W.1.su hp hk hv, w', W.2.2⟩, C2.lo w' (((iv_lo.rf.up _ (by decide)).tr g3).up _ (by decide)), D3.su w' _ v⟩
end Acts
theorem s_deed : gl_S_deed ma_Inv := by
  intro M L hI x1 x2
  have hI0 := hI
  obtain ⟨s, T, V, W, C, D⟩ := hI
  have w := W.2.1
  obtain ⟨f1, f2, f3, f4, f5, f6, f7, f8, f9, f10, f11, f12, f13, f14, -⟩ := W.2.1
  have D1 := ma_D0 D w (iI 0)
  rcases ma_isP W x1 with ⟨n1, n2⟩ | ⟨p, hp, p8, rfl⟩
  · refine ⟨iI (-1), M, gs_up M 147 0 (iI 0), ?_, ?_, hI0.ag (ma_g0 iv_ag.rf _)⟩
    · unfold f_X11_deed
      simp (disch := omega) only [qn0, qn1, qn2, qn3, qn4, qn5, qn6, qn7, qn8, qn9, qn10, qn11, qn12, qn13, qn14, qn15, qn16, qn17, qn18, qn24, qn30, qn31, qn32, qn33, qn36, qn38, qn40, qn41, qn42, qn43, qn45, qn47, qn48, qn49, qn50, qn51, qn52, qn53, qn57, qn58, qn59, qn60, qn61, qn62, qn63, qn91, qn93, qn97, qn99, qn100, qn103, qn104, qn112, qn113, qn115, qn116, qn118, qn119, qn121, qn124, qn173, qn177, qn240, qn255, qn295, qn352, qn353, qn533, qn999, qn1000, qn1023, qn6561, qn10000, qn20787, qn1000000, qn252645135, qn858993459, qn1000000000, qn1431655765, qj0, qj1, qj2, qj4, qj7, qj8, qj9, qj10, qj30, qj100, qj1000, qj1000000, qj1000000000, qj1442695040888963407, qj6364136223846793005, q_s1, q_s2, q_s3, q_s4, q_s5, iI_add, iI_sub, iI_mul, iI_neg, q_lt, q_le, q_eq, jI_add, jI_sub, jI_mul, jI_neg, jI_of, jI_to, j_le0, j_ge0, j_lt0, j_gt0, j_eq0, q_dvl, qz0, qz1, qz2, qz3, if_pos, if_neg, reduceIte, n1 M C]
    · unfold f_X12_deed
      simp (disch := omega) only [qn0, qn1, qn2, qn3, qn4, qn5, qn6, qn7, qn8, qn9, qn10, qn11, qn12, qn13, qn14, qn15, qn16, qn17, qn18, qn24, qn30, qn31, qn32, qn33, qn36, qn38, qn40, qn41, qn42, qn43, qn45, qn47, qn48, qn49, qn50, qn51, qn52, qn53, qn57, qn58, qn59, qn60, qn61, qn62, qn63, qn91, qn93, qn97, qn99, qn100, qn103, qn104, qn112, qn113, qn115, qn116, qn118, qn119, qn121, qn124, qn173, qn177, qn240, qn255, qn295, qn352, qn353, qn533, qn999, qn1000, qn1023, qn6561, qn10000, qn20787, qn1000000, qn252645135, qn858993459, qn1000000000, qn1431655765, qj0, qj1, qj2, qj4, qj7, qj8, qj9, qj10, qj30, qj100, qj1000, qj1000000, qj1000000000, qj1442695040888963407, qj6364136223846793005, q_s1, q_s2, q_s3, q_s4, q_s5, iI_add, iI_sub, iI_mul, iI_neg, q_lt, q_le, q_eq, jI_add, jI_sub, jI_mul, jI_neg, jI_of, jI_to, j_le0, j_ge0, j_lt0, j_gt0, j_eq0, q_dvl, qz0, qz1, qz2, qz3, if_pos, if_neg, reduceIte, n2 _ D1]
  obtain ⟨z, z1, z2, rfl⟩ := q_any x2
  have o := W.1.1 p p8
  unfold ma_one at o
  have e1 := c_of0 C.st p8
  have e2 := m_of0 D1.st p8
  rcases (by omega : z < -9 ∨ 9 < z ∨ z = 0 ∨ (-9 ≤ z ∧ z ≤ 9 ∧ z ≠ 0 ∧ s (6 * p) + z < 0) ∨ (-9 ≤ z ∧ z ≤ 9 ∧ z ≠ 0 ∧ 9 < s (6 * p) + z) ∨ (-9 ≤ z ∧ z ≤ 9 ∧ z ≠ 0 ∧ 0 ≤ s (6 * p) + z ∧ s (6 * p) + z ≤ 9)) with d | d | d | d | d | d
  · refine ⟨iI (-1), M, gs_up M 147 0 (iI 0), ?_, ?_, hI0.ag (ma_g0 iv_ag.rf _)⟩
    · unfold f_X11_deed
      simp (disch := omega) only [qn0, qn1, qn2, qn3, qn4, qn5, qn6, qn7, qn8, qn9, qn10, qn11, qn12, qn13, qn14, qn15, qn16, qn17, qn18, qn24, qn30, qn31, qn32, qn33, qn36, qn38, qn40, qn41, qn42, qn43, qn45, qn47, qn48, qn49, qn50, qn51, qn52, qn53, qn57, qn58, qn59, qn60, qn61, qn62, qn63, qn91, qn93, qn97, qn99, qn100, qn103, qn104, qn112, qn113, qn115, qn116, qn118, qn119, qn121, qn124, qn173, qn177, qn240, qn255, qn295, qn352, qn353, qn533, qn999, qn1000, qn1023, qn6561, qn10000, qn20787, qn1000000, qn252645135, qn858993459, qn1000000000, qn1431655765, qj0, qj1, qj2, qj4, qj7, qj8, qj9, qj10, qj30, qj100, qj1000, qj1000000, qj1000000000, qj1442695040888963407, qj6364136223846793005, q_s1, q_s2, q_s3, q_s4, q_s5, iI_add, iI_sub, iI_mul, iI_neg, q_lt, q_le, q_eq, jI_add, jI_sub, jI_mul, jI_neg, jI_of, jI_to, j_le0, j_ge0, j_lt0, j_gt0, j_eq0, q_dvl, qz0, qz1, qz2, qz3, if_pos, if_neg, reduceIte, c_isP w C hp, e1]
    · unfold f_X12_deed
      simp (disch := omega) only [qn0, qn1, qn2, qn3, qn4, qn5, qn6, qn7, qn8, qn9, qn10, qn11, qn12, qn13, qn14, qn15, qn16, qn17, qn18, qn24, qn30, qn31, qn32, qn33, qn36, qn38, qn40, qn41, qn42, qn43, qn45, qn47, qn48, qn49, qn50, qn51, qn52, qn53, qn57, qn58, qn59, qn60, qn61, qn62, qn63, qn91, qn93, qn97, qn99, qn100, qn103, qn104, qn112, qn113, qn115, qn116, qn118, qn119, qn121, qn124, qn173, qn177, qn240, qn255, qn295, qn352, qn353, qn533, qn999, qn1000, qn1023, qn6561, qn10000, qn20787, qn1000000, qn252645135, qn858993459, qn1000000000, qn1431655765, qj0, qj1, qj2, qj4, qj7, qj8, qj9, qj10, qj30, qj100, qj1000, qj1000000, qj1000000000, qj1442695040888963407, qj6364136223846793005, q_s1, q_s2, q_s3, q_s4, q_s5, iI_add, iI_sub, iI_mul, iI_neg, q_lt, q_le, q_eq, jI_add, jI_sub, jI_mul, jI_neg, jI_of, jI_to, j_le0, j_ge0, j_lt0, j_gt0, j_eq0, q_dvl, qz0, qz1, qz2, qz3, if_pos, if_neg, reduceIte, m_isP w D1 hp, e2, m_isOut, m_isIn]
  · refine ⟨iI (-1), M, gs_up M 147 0 (iI 0), ?_, ?_, hI0.ag (ma_g0 iv_ag.rf _)⟩
    · unfold f_X11_deed
      simp (disch := omega) only [qn0, qn1, qn2, qn3, qn4, qn5, qn6, qn7, qn8, qn9, qn10, qn11, qn12, qn13, qn14, qn15, qn16, qn17, qn18, qn24, qn30, qn31, qn32, qn33, qn36, qn38, qn40, qn41, qn42, qn43, qn45, qn47, qn48, qn49, qn50, qn51, qn52, qn53, qn57, qn58, qn59, qn60, qn61, qn62, qn63, qn91, qn93, qn97, qn99, qn100, qn103, qn104, qn112, qn113, qn115, qn116, qn118, qn119, qn121, qn124, qn173, qn177, qn240, qn255, qn295, qn352, qn353, qn533, qn999, qn1000, qn1023, qn6561, qn10000, qn20787, qn1000000, qn252645135, qn858993459, qn1000000000, qn1431655765, qj0, qj1, qj2, qj4, qj7, qj8, qj9, qj10, qj30, qj100, qj1000, qj1000000, qj1000000000, qj1442695040888963407, qj6364136223846793005, q_s1, q_s2, q_s3, q_s4, q_s5, iI_add, iI_sub, iI_mul, iI_neg, q_lt, q_le, q_eq, jI_add, jI_sub, jI_mul, jI_neg, jI_of, jI_to, j_le0, j_ge0, j_lt0, j_gt0, j_eq0, q_dvl, qz0, qz1, qz2, qz3, if_pos, if_neg, reduceIte, c_isP w C hp, e1]
    · unfold f_X12_deed
      simp (disch := omega) only [qn0, qn1, qn2, qn3, qn4, qn5, qn6, qn7, qn8, qn9, qn10, qn11, qn12, qn13, qn14, qn15, qn16, qn17, qn18, qn24, qn30, qn31, qn32, qn33, qn36, qn38, qn40, qn41, qn42, qn43, qn45, qn47, qn48, qn49, qn50, qn51, qn52, qn53, qn57, qn58, qn59, qn60, qn61, qn62, qn63, qn91, qn93, qn97, qn99, qn100, qn103, qn104, qn112, qn113, qn115, qn116, qn118, qn119, qn121, qn124, qn173, qn177, qn240, qn255, qn295, qn352, qn353, qn533, qn999, qn1000, qn1023, qn6561, qn10000, qn20787, qn1000000, qn252645135, qn858993459, qn1000000000, qn1431655765, qj0, qj1, qj2, qj4, qj7, qj8, qj9, qj10, qj30, qj100, qj1000, qj1000000, qj1000000000, qj1442695040888963407, qj6364136223846793005, q_s1, q_s2, q_s3, q_s4, q_s5, iI_add, iI_sub, iI_mul, iI_neg, q_lt, q_le, q_eq, jI_add, jI_sub, jI_mul, jI_neg, jI_of, jI_to, j_le0, j_ge0, j_lt0, j_gt0, j_eq0, q_dvl, qz0, qz1, qz2, qz3, if_pos, if_neg, reduceIte, m_isP w D1 hp, e2, m_isOut, m_isIn]
  · refine ⟨iI (-1), M, gs_up M 147 0 (iI 0), ?_, ?_, hI0.ag (ma_g0 iv_ag.rf _)⟩
    · unfold f_X11_deed
      simp (disch := omega) only [qn0, qn1, qn2, qn3, qn4, qn5, qn6, qn7, qn8, qn9, qn10, qn11, qn12, qn13, qn14, qn15, qn16, qn17, qn18, qn24, qn30, qn31, qn32, qn33, qn36, qn38, qn40, qn41, qn42, qn43, qn45, qn47, qn48, qn49, qn50, qn51, qn52, qn53, qn57, qn58, qn59, qn60, qn61, qn62, qn63, qn91, qn93, qn97, qn99, qn100, qn103, qn104, qn112, qn113, qn115, qn116, qn118, qn119, qn121, qn124, qn173, qn177, qn240, qn255, qn295, qn352, qn353, qn533, qn999, qn1000, qn1023, qn6561, qn10000, qn20787, qn1000000, qn252645135, qn858993459, qn1000000000, qn1431655765, qj0, qj1, qj2, qj4, qj7, qj8, qj9, qj10, qj30, qj100, qj1000, qj1000000, qj1000000000, qj1442695040888963407, qj6364136223846793005, q_s1, q_s2, q_s3, q_s4, q_s5, iI_add, iI_sub, iI_mul, iI_neg, q_lt, q_le, q_eq, jI_add, jI_sub, jI_mul, jI_neg, jI_of, jI_to, j_le0, j_ge0, j_lt0, j_gt0, j_eq0, q_dvl, qz0, qz1, qz2, qz3, if_pos, if_neg, reduceIte, c_isP w C hp, e1]
    · unfold f_X12_deed
      simp (disch := omega) only [qn0, qn1, qn2, qn3, qn4, qn5, qn6, qn7, qn8, qn9, qn10, qn11, qn12, qn13, qn14, qn15, qn16, qn17, qn18, qn24, qn30, qn31, qn32, qn33, qn36, qn38, qn40, qn41, qn42, qn43, qn45, qn47, qn48, qn49, qn50, qn51, qn52, qn53, qn57, qn58, qn59, qn60, qn61, qn62, qn63, qn91, qn93, qn97, qn99, qn100, qn103, qn104, qn112, qn113, qn115, qn116, qn118, qn119, qn121, qn124, qn173, qn177, qn240, qn255, qn295, qn352, qn353, qn533, qn999, qn1000, qn1023, qn6561, qn10000, qn20787, qn1000000, qn252645135, qn858993459, qn1000000000, qn1431655765, qj0, qj1, qj2, qj4, qj7, qj8, qj9, qj10, qj30, qj100, qj1000, qj1000000, qj1000000000, qj1442695040888963407, qj6364136223846793005, q_s1, q_s2, q_s3, q_s4, q_s5, iI_add, iI_sub, iI_mul, iI_neg, q_lt, q_le, q_eq, jI_add, jI_sub, jI_mul, jI_neg, jI_of, jI_to, j_le0, j_ge0, j_lt0, j_gt0, j_eq0, q_dvl, qz0, qz1, qz2, qz3, if_pos, if_neg, reduceIte, m_isP w D1 hp, e2, m_isOut, m_isIn]
  · refine ⟨iI (-1), M, gs_up M 147 0 (iI 0), ?_, ?_, hI0.ag (ma_g0 iv_ag.rf _)⟩
    · unfold f_X11_deed
      simp (disch := omega) only [qn0, qn1, qn2, qn3, qn4, qn5, qn6, qn7, qn8, qn9, qn10, qn11, qn12, qn13, qn14, qn15, qn16, qn17, qn18, qn24, qn30, qn31, qn32, qn33, qn36, qn38, qn40, qn41, qn42, qn43, qn45, qn47, qn48, qn49, qn50, qn51, qn52, qn53, qn57, qn58, qn59, qn60, qn61, qn62, qn63, qn91, qn93, qn97, qn99, qn100, qn103, qn104, qn112, qn113, qn115, qn116, qn118, qn119, qn121, qn124, qn173, qn177, qn240, qn255, qn295, qn352, qn353, qn533, qn999, qn1000, qn1023, qn6561, qn10000, qn20787, qn1000000, qn252645135, qn858993459, qn1000000000, qn1431655765, qj0, qj1, qj2, qj4, qj7, qj8, qj9, qj10, qj30, qj100, qj1000, qj1000000, qj1000000000, qj1442695040888963407, qj6364136223846793005, q_s1, q_s2, q_s3, q_s4, q_s5, iI_add, iI_sub, iI_mul, iI_neg, q_lt, q_le, q_eq, jI_add, jI_sub, jI_mul, jI_neg, jI_of, jI_to, j_le0, j_ge0, j_lt0, j_gt0, j_eq0, q_dvl, qz0, qz1, qz2, qz3, if_pos, if_neg, reduceIte, c_isP w C hp, e1]
    · unfold f_X12_deed
      simp (disch := omega) only [qn0, qn1, qn2, qn3, qn4, qn5, qn6, qn7, qn8, qn9, qn10, qn11, qn12, qn13, qn14, qn15, qn16, qn17, qn18, qn24, qn30, qn31, qn32, qn33, qn36, qn38, qn40, qn41, qn42, qn43, qn45, qn47, qn48, qn49, qn50, qn51, qn52, qn53, qn57, qn58, qn59, qn60, qn61, qn62, qn63, qn91, qn93, qn97, qn99, qn100, qn103, qn104, qn112, qn113, qn115, qn116, qn118, qn119, qn121, qn124, qn173, qn177, qn240, qn255, qn295, qn352, qn353, qn533, qn999, qn1000, qn1023, qn6561, qn10000, qn20787, qn1000000, qn252645135, qn858993459, qn1000000000, qn1431655765, qj0, qj1, qj2, qj4, qj7, qj8, qj9, qj10, qj30, qj100, qj1000, qj1000000, qj1000000000, qj1442695040888963407, qj6364136223846793005, q_s1, q_s2, q_s3, q_s4, q_s5, iI_add, iI_sub, iI_mul, iI_neg, q_lt, q_le, q_eq, jI_add, jI_sub, jI_mul, jI_neg, jI_of, jI_to, j_le0, j_ge0, j_lt0, j_gt0, j_eq0, q_dvl, qz0, qz1, qz2, qz3, if_pos, if_neg, reduceIte, m_isP w D1 hp, e2, m_isOut, m_isIn]
  · refine ⟨iI (-1), M, gs_up M 147 0 (iI 0), ?_, ?_, hI0.ag (ma_g0 iv_ag.rf _)⟩
    · unfold f_X11_deed
      simp (disch := omega) only [qn0, qn1, qn2, qn3, qn4, qn5, qn6, qn7, qn8, qn9, qn10, qn11, qn12, qn13, qn14, qn15, qn16, qn17, qn18, qn24, qn30, qn31, qn32, qn33, qn36, qn38, qn40, qn41, qn42, qn43, qn45, qn47, qn48, qn49, qn50, qn51, qn52, qn53, qn57, qn58, qn59, qn60, qn61, qn62, qn63, qn91, qn93, qn97, qn99, qn100, qn103, qn104, qn112, qn113, qn115, qn116, qn118, qn119, qn121, qn124, qn173, qn177, qn240, qn255, qn295, qn352, qn353, qn533, qn999, qn1000, qn1023, qn6561, qn10000, qn20787, qn1000000, qn252645135, qn858993459, qn1000000000, qn1431655765, qj0, qj1, qj2, qj4, qj7, qj8, qj9, qj10, qj30, qj100, qj1000, qj1000000, qj1000000000, qj1442695040888963407, qj6364136223846793005, q_s1, q_s2, q_s3, q_s4, q_s5, iI_add, iI_sub, iI_mul, iI_neg, q_lt, q_le, q_eq, jI_add, jI_sub, jI_mul, jI_neg, jI_of, jI_to, j_le0, j_ge0, j_lt0, j_gt0, j_eq0, q_dvl, qz0, qz1, qz2, qz3, if_pos, if_neg, reduceIte, c_isP w C hp, e1]
    · unfold f_X12_deed
      simp (disch := omega) only [qn0, qn1, qn2, qn3, qn4, qn5, qn6, qn7, qn8, qn9, qn10, qn11, qn12, qn13, qn14, qn15, qn16, qn17, qn18, qn24, qn30, qn31, qn32, qn33, qn36, qn38, qn40, qn41, qn42, qn43, qn45, qn47, qn48, qn49, qn50, qn51, qn52, qn53, qn57, qn58, qn59, qn60, qn61, qn62, qn63, qn91, qn93, qn97, qn99, qn100, qn103, qn104, qn112, qn113, qn115, qn116, qn118, qn119, qn121, qn124, qn173, qn177, qn240, qn255, qn295, qn352, qn353, qn533, qn999, qn1000, qn1023, qn6561, qn10000, qn20787, qn1000000, qn252645135, qn858993459, qn1000000000, qn1431655765, qj0, qj1, qj2, qj4, qj7, qj8, qj9, qj10, qj30, qj100, qj1000, qj1000000, qj1000000000, qj1442695040888963407, qj6364136223846793005, q_s1, q_s2, q_s3, q_s4, q_s5, iI_add, iI_sub, iI_mul, iI_neg, q_lt, q_le, q_eq, jI_add, jI_sub, jI_mul, jI_neg, jI_of, jI_to, j_le0, j_ge0, j_lt0, j_gt0, j_eq0, q_dvl, qz0, qz1, qz2, qz3, if_pos, if_neg, reduceIte, m_isP w D1 hp, e2, m_isOut, m_isIn]
  · obtain ⟨M1, M3, k1, D2, k2, D3, hI3⟩ := ma_act1 W C D L p8 (k := 0) (by decide) (v := s (6 * p) + z) (by have : ma_rg 0 = 9 := rfl; omega)
    simp only [Nat.add_zero] at D2 k2 hI3
    have e3 := m_of0 D2.st p8
    have e4 : gs_rd M3 158 533 (iI (6 * p + 0)) = some (iI (s (6 * p))) := by
      rw [show (6 * (p : Int) + 0) = ((6 * p : Nat) : Int) by omega]
      exact m_cell D3.st (by omega)
    have e5 : ∀ v, gs_wr M3 158 533 (iI (6 * p + 0)) v = some (gs_up M3 158 (6 * p) v) := fun v => q_wrn (6 * p) (by omega) (by omega) (by decide)
    have e6 : f_X12_of (gs_up M3 158 (6 * p) (iI (s (6 * p) + z))) (iI p) (iI 0) = some (iI (s (6 * p) + z)) := by
      have := m_of0 (m_su D3.st (6 * p) (s (6 * p) + z)) p8
      rw [ma_su_eq] at this
      exact this
    refine ⟨iI (s (6 * p) + z), gs_up M1 10 (6 * p) (iI (s (6 * p) + z)), gs_up M3 158 (6 * p) (iI (s (6 * p) + z)), ?_, ?_, hI3⟩
    · unfold f_X11_deed
      simp (disch := omega) only [qn0, qn1, qn2, qn3, qn4, qn5, qn6, qn7, qn8, qn9, qn10, qn11, qn12, qn13, qn14, qn15, qn16, qn17, qn18, qn24, qn30, qn31, qn32, qn33, qn36, qn38, qn40, qn41, qn42, qn43, qn45, qn47, qn48, qn49, qn50, qn51, qn52, qn53, qn57, qn58, qn59, qn60, qn61, qn62, qn63, qn91, qn93, qn97, qn99, qn100, qn103, qn104, qn112, qn113, qn115, qn116, qn118, qn119, qn121, qn124, qn173, qn177, qn240, qn255, qn295, qn352, qn353, qn533, qn999, qn1000, qn1023, qn6561, qn10000, qn20787, qn1000000, qn252645135, qn858993459, qn1000000000, qn1431655765, qj0, qj1, qj2, qj4, qj7, qj8, qj9, qj10, qj30, qj100, qj1000, qj1000000, qj1000000000, qj1442695040888963407, qj6364136223846793005, q_s1, q_s2, q_s3, q_s4, q_s5, iI_add, iI_sub, iI_mul, iI_neg, q_lt, q_le, q_eq, jI_add, jI_sub, jI_mul, jI_neg, jI_of, jI_to, j_le0, j_ge0, j_lt0, j_gt0, j_eq0, q_dvl, qz0, qz1, qz2, qz3, if_pos, if_neg, reduceIte, c_isP w C hp, e1, k1, show ∀ x, f_X6_set M1 (iI p) (iI 0) x = some (gs_up M1 10 (6 * p) x) from fun x => c_set (k := 0) p8 (by decide) x]
    · unfold f_X12_deed
      simp (disch := omega) only [qn0, qn1, qn2, qn3, qn4, qn5, qn6, qn7, qn8, qn9, qn10, qn11, qn12, qn13, qn14, qn15, qn16, qn17, qn18, qn24, qn30, qn31, qn32, qn33, qn36, qn38, qn40, qn41, qn42, qn43, qn45, qn47, qn48, qn49, qn50, qn51, qn52, qn53, qn57, qn58, qn59, qn60, qn61, qn62, qn63, qn91, qn93, qn97, qn99, qn100, qn103, qn104, qn112, qn113, qn115, qn116, qn118, qn119, qn121, qn124, qn173, qn177, qn240, qn255, qn295, qn352, qn353, qn533, qn999, qn1000, qn1023, qn6561, qn10000, qn20787, qn1000000, qn252645135, qn858993459, qn1000000000, qn1431655765, qj0, qj1, qj2, qj4, qj7, qj8, qj9, qj10, qj30, qj100, qj1000, qj1000000, qj1000000000, qj1442695040888963407, qj6364136223846793005, q_s1, q_s2, q_s3, q_s4, q_s5, iI_add, iI_sub, iI_mul, iI_neg, q_lt, q_le, q_eq, jI_add, jI_sub, jI_mul, jI_neg, jI_of, jI_to, j_le0, j_ge0, j_lt0, j_gt0, j_eq0, q_dvl, qz0, qz1, qz2, qz3, if_pos, if_neg, reduceIte, m_isP w D2 hp, e3, m_isIn, k2, e4, e5, e6]
theorem s_coffee : gl_S_coffee ma_Inv := by
  intro M L hI x1
  have hI0 := hI
  obtain ⟨s, T, V, W, C, D⟩ := hI
  have w := W.2.1
  obtain ⟨f1, f2, f3, f4, f5, f6, f7, f8, f9, f10, f11, f12, f13, f14, -⟩ := W.2.1
  have D1 := ma_D0 D w (iI 0)
  rcases ma_isP W x1 with ⟨n1, n2⟩ | ⟨p, hp, p8, rfl⟩
  · refine ⟨iI 0, M, gs_up M 147 0 (iI 0), ?_, ?_, hI0.ag (ma_g0 iv_ag.rf _)⟩
    · unfold f_X11_coffee f_X11_onceAhead
      simp (disch := omega) only [qn0, qn1, qn2, qn3, qn4, qn5, qn6, qn7, qn8, qn9, qn10, qn11, qn12, qn13, qn14, qn15, qn16, qn17, qn18, qn24, qn30, qn31, qn32, qn33, qn36, qn38, qn40, qn41, qn42, qn43, qn45, qn47, qn48, qn49, qn50, qn51, qn52, qn53, qn57, qn58, qn59, qn60, qn61, qn62, qn63, qn91, qn93, qn97, qn99, qn100, qn103, qn104, qn112, qn113, qn115, qn116, qn118, qn119, qn121, qn124, qn173, qn177, qn240, qn255, qn295, qn352, qn353, qn533, qn999, qn1000, qn1023, qn6561, qn10000, qn20787, qn1000000, qn252645135, qn858993459, qn1000000000, qn1431655765, qj0, qj1, qj2, qj4, qj7, qj8, qj9, qj10, qj30, qj100, qj1000, qj1000000, qj1000000000, qj1442695040888963407, qj6364136223846793005, q_s1, q_s2, q_s3, q_s4, q_s5, iI_add, iI_sub, iI_mul, iI_neg, q_lt, q_le, q_eq, jI_add, jI_sub, jI_mul, jI_neg, jI_of, jI_to, j_le0, j_ge0, j_lt0, j_gt0, j_eq0, q_dvl, qz0, qz1, qz2, qz3, if_pos, if_neg, reduceIte, n1 M C]
    · unfold f_X12_coffee f_X12_marks
      simp (disch := omega) only [qn0, qn1, qn2, qn3, qn4, qn5, qn6, qn7, qn8, qn9, qn10, qn11, qn12, qn13, qn14, qn15, qn16, qn17, qn18, qn24, qn30, qn31, qn32, qn33, qn36, qn38, qn40, qn41, qn42, qn43, qn45, qn47, qn48, qn49, qn50, qn51, qn52, qn53, qn57, qn58, qn59, qn60, qn61, qn62, qn63, qn91, qn93, qn97, qn99, qn100, qn103, qn104, qn112, qn113, qn115, qn116, qn118, qn119, qn121, qn124, qn173, qn177, qn240, qn255, qn295, qn352, qn353, qn533, qn999, qn1000, qn1023, qn6561, qn10000, qn20787, qn1000000, qn252645135, qn858993459, qn1000000000, qn1431655765, qj0, qj1, qj2, qj4, qj7, qj8, qj9, qj10, qj30, qj100, qj1000, qj1000000, qj1000000000, qj1442695040888963407, qj6364136223846793005, q_s1, q_s2, q_s3, q_s4, q_s5, iI_add, iI_sub, iI_mul, iI_neg, q_lt, q_le, q_eq, jI_add, jI_sub, jI_mul, jI_neg, jI_of, jI_to, j_le0, j_ge0, j_lt0, j_gt0, j_eq0, q_dvl, qz0, qz1, qz2, qz3, if_pos, if_neg, reduceIte, n2 _ D1]
  have o := W.1.1 p p8
  unfold ma_one at o
  have e1 := c_of3 C.st p8
  have e2 := m_of3 D1.st p8
  rcases (by omega : s (6 * p + 3) = 1 ∨ s (6 * p + 3) = 0) with d | d
  · rw [d] at e1 e2
    refine ⟨iI 0, M, gs_up M 147 0 (iI 0), ?_, ?_, hI0.ag (ma_g0 iv_ag.rf _)⟩
    · unfold f_X11_coffee f_X11_onceAhead
      simp (disch := omega) only [qn0, qn1, qn2, qn3, qn4, qn5, qn6, qn7, qn8, qn9, qn10, qn11, qn12, qn13, qn14, qn15, qn16, qn17, qn18, qn24, qn30, qn31, qn32, qn33, qn36, qn38, qn40, qn41, qn42, qn43, qn45, qn47, qn48, qn49, qn50, qn51, qn52, qn53, qn57, qn58, qn59, qn60, qn61, qn62, qn63, qn91, qn93, qn97, qn99, qn100, qn103, qn104, qn112, qn113, qn115, qn116, qn118, qn119, qn121, qn124, qn173, qn177, qn240, qn255, qn295, qn352, qn353, qn533, qn999, qn1000, qn1023, qn6561, qn10000, qn20787, qn1000000, qn252645135, qn858993459, qn1000000000, qn1431655765, qj0, qj1, qj2, qj4, qj7, qj8, qj9, qj10, qj30, qj100, qj1000, qj1000000, qj1000000000, qj1442695040888963407, qj6364136223846793005, q_s1, q_s2, q_s3, q_s4, q_s5, iI_add, iI_sub, iI_mul, iI_neg, q_lt, q_le, q_eq, jI_add, jI_sub, jI_mul, jI_neg, jI_of, jI_to, j_le0, j_ge0, j_lt0, j_gt0, j_eq0, q_dvl, qz0, qz1, qz2, qz3, if_pos, if_neg, reduceIte, c_isP w C hp, e1]
    · unfold f_X12_coffee f_X12_marks
      simp (disch := omega) only [qn0, qn1, qn2, qn3, qn4, qn5, qn6, qn7, qn8, qn9, qn10, qn11, qn12, qn13, qn14, qn15, qn16, qn17, qn18, qn24, qn30, qn31, qn32, qn33, qn36, qn38, qn40, qn41, qn42, qn43, qn45, qn47, qn48, qn49, qn50, qn51, qn52, qn53, qn57, qn58, qn59, qn60, qn61, qn62, qn63, qn91, qn93, qn97, qn99, qn100, qn103, qn104, qn112, qn113, qn115, qn116, qn118, qn119, qn121, qn124, qn173, qn177, qn240, qn255, qn295, qn352, qn353, qn533, qn999, qn1000, qn1023, qn6561, qn10000, qn20787, qn1000000, qn252645135, qn858993459, qn1000000000, qn1431655765, qj0, qj1, qj2, qj4, qj7, qj8, qj9, qj10, qj30, qj100, qj1000, qj1000000, qj1000000000, qj1442695040888963407, qj6364136223846793005, q_s1, q_s2, q_s3, q_s4, q_s5, iI_add, iI_sub, iI_mul, iI_neg, q_lt, q_le, q_eq, jI_add, jI_sub, jI_mul, jI_neg, jI_of, jI_to, j_le0, j_ge0, j_lt0, j_gt0, j_eq0, q_dvl, qz0, qz1, qz2, qz3, if_pos, if_neg, reduceIte, m_isP w D1 hp, e2]
  · obtain ⟨M1, M3, k1, D2, k2, D3, hI3⟩ := ma_act1 W C D L p8 (k := 3) (by decide) (v := 1) ⟨by decide, (ma_rg_b _).1⟩
    have e3 := m_of3 D2.st p8
    rw [d] at e1 e3
    refine ⟨iI 1, gs_up M1 10 (6 * p + 3) (iI 1), gs_up M3 158 (6 * p + 3) (iI 1), ?_, ?_, hI3⟩
    · unfold f_X11_coffee f_X11_onceAhead
      simp (disch := omega) only [qn0, qn1, qn2, qn3, qn4, qn5, qn6, qn7, qn8, qn9, qn10, qn11, qn12, qn13, qn14, qn15, qn16, qn17, qn18, qn24, qn30, qn31, qn32, qn33, qn36, qn38, qn40, qn41, qn42, qn43, qn45, qn47, qn48, qn49, qn50, qn51, qn52, qn53, qn57, qn58, qn59, qn60, qn61, qn62, qn63, qn91, qn93, qn97, qn99, qn100, qn103, qn104, qn112, qn113, qn115, qn116, qn118, qn119, qn121, qn124, qn173, qn177, qn240, qn255, qn295, qn352, qn353, qn533, qn999, qn1000, qn1023, qn6561, qn10000, qn20787, qn1000000, qn252645135, qn858993459, qn1000000000, qn1431655765, qj0, qj1, qj2, qj4, qj7, qj8, qj9, qj10, qj30, qj100, qj1000, qj1000000, qj1000000000, qj1442695040888963407, qj6364136223846793005, q_s1, q_s2, q_s3, q_s4, q_s5, iI_add, iI_sub, iI_mul, iI_neg, q_lt, q_le, q_eq, jI_add, jI_sub, jI_mul, jI_neg, jI_of, jI_to, j_le0, j_ge0, j_lt0, j_gt0, j_eq0, q_dvl, qz0, qz1, qz2, qz3, if_pos, if_neg, reduceIte, c_isP w C hp, e1, k1, show ∀ x, f_X6_set M1 (iI p) (iI 3) x = some (gs_up M1 10 (6 * p + 3) x) from fun x => c_set (k := 3) p8 (by decide) x]
    · unfold f_X12_coffee f_X12_marks
      simp (disch := omega) only [qn0, qn1, qn2, qn3, qn4, qn5, qn6, qn7, qn8, qn9, qn10, qn11, qn12, qn13, qn14, qn15, qn16, qn17, qn18, qn24, qn30, qn31, qn32, qn33, qn36, qn38, qn40, qn41, qn42, qn43, qn45, qn47, qn48, qn49, qn50, qn51, qn52, qn53, qn57, qn58, qn59, qn60, qn61, qn62, qn63, qn91, qn93, qn97, qn99, qn100, qn103, qn104, qn112, qn113, qn115, qn116, qn118, qn119, qn121, qn124, qn173, qn177, qn240, qn255, qn295, qn352, qn353, qn533, qn999, qn1000, qn1023, qn6561, qn10000, qn20787, qn1000000, qn252645135, qn858993459, qn1000000000, qn1431655765, qj0, qj1, qj2, qj4, qj7, qj8, qj9, qj10, qj30, qj100, qj1000, qj1000000, qj1000000000, qj1442695040888963407, qj6364136223846793005, q_s1, q_s2, q_s3, q_s4, q_s5, iI_add, iI_sub, iI_mul, iI_neg, q_lt, q_le, q_eq, jI_add, jI_sub, jI_mul, jI_neg, jI_of, jI_to, j_le0, j_ge0, j_lt0, j_gt0, j_eq0, q_dvl, qz0, qz1, qz2, qz3, if_pos, if_neg, reduceIte, m_isP w D2 hp, e3, k2, show ∀ x, gs_wr M3 158 533 (iI (6 * p + 3)) x = some (gs_up M3 158 (6 * p + 3) x) from fun x => m_set (k := 3) p8 (by decide) x]
theorem s_forge : gl_S_forge ma_Inv := by
  intro M L hI x1
  have hI0 := hI
  obtain ⟨s, T, V, W, C, D⟩ := hI
  have w := W.2.1
  obtain ⟨f1, f2, f3, f4, f5, f6, f7, f8, f9, f10, f11, f12, f13, f14, -⟩ := W.2.1
  have D1 := ma_D0 D w (iI 0)
  rcases ma_isP W x1 with ⟨n1, n2⟩ | ⟨p, hp, p8, rfl⟩
  · refine ⟨iI 0, M, gs_up M 147 0 (iI 0), ?_, ?_, hI0.ag (ma_g0 iv_ag.rf _)⟩
    · unfold f_X11_forge f_X11_onceAhead
      simp (disch := omega) only [qn0, qn1, qn2, qn3, qn4, qn5, qn6, qn7, qn8, qn9, qn10, qn11, qn12, qn13, qn14, qn15, qn16, qn17, qn18, qn24, qn30, qn31, qn32, qn33, qn36, qn38, qn40, qn41, qn42, qn43, qn45, qn47, qn48, qn49, qn50, qn51, qn52, qn53, qn57, qn58, qn59, qn60, qn61, qn62, qn63, qn91, qn93, qn97, qn99, qn100, qn103, qn104, qn112, qn113, qn115, qn116, qn118, qn119, qn121, qn124, qn173, qn177, qn240, qn255, qn295, qn352, qn353, qn533, qn999, qn1000, qn1023, qn6561, qn10000, qn20787, qn1000000, qn252645135, qn858993459, qn1000000000, qn1431655765, qj0, qj1, qj2, qj4, qj7, qj8, qj9, qj10, qj30, qj100, qj1000, qj1000000, qj1000000000, qj1442695040888963407, qj6364136223846793005, q_s1, q_s2, q_s3, q_s4, q_s5, iI_add, iI_sub, iI_mul, iI_neg, q_lt, q_le, q_eq, jI_add, jI_sub, jI_mul, jI_neg, jI_of, jI_to, j_le0, j_ge0, j_lt0, j_gt0, j_eq0, q_dvl, qz0, qz1, qz2, qz3, if_pos, if_neg, reduceIte, n1 M C]
    · unfold f_X12_forge f_X12_marks
      simp (disch := omega) only [qn0, qn1, qn2, qn3, qn4, qn5, qn6, qn7, qn8, qn9, qn10, qn11, qn12, qn13, qn14, qn15, qn16, qn17, qn18, qn24, qn30, qn31, qn32, qn33, qn36, qn38, qn40, qn41, qn42, qn43, qn45, qn47, qn48, qn49, qn50, qn51, qn52, qn53, qn57, qn58, qn59, qn60, qn61, qn62, qn63, qn91, qn93, qn97, qn99, qn100, qn103, qn104, qn112, qn113, qn115, qn116, qn118, qn119, qn121, qn124, qn173, qn177, qn240, qn255, qn295, qn352, qn353, qn533, qn999, qn1000, qn1023, qn6561, qn10000, qn20787, qn1000000, qn252645135, qn858993459, qn1000000000, qn1431655765, qj0, qj1, qj2, qj4, qj7, qj8, qj9, qj10, qj30, qj100, qj1000, qj1000000, qj1000000000, qj1442695040888963407, qj6364136223846793005, q_s1, q_s2, q_s3, q_s4, q_s5, iI_add, iI_sub, iI_mul, iI_neg, q_lt, q_le, q_eq, jI_add, jI_sub, jI_mul, jI_neg, jI_of, jI_to, j_le0, j_ge0, j_lt0, j_gt0, j_eq0, q_dvl, qz0, qz1, qz2, qz3, if_pos, if_neg, reduceIte, n2 _ D1]
  have o := W.1.1 p p8
  unfold ma_one at o
  have e1 := c_of4 C.st p8
  have e2 := m_of4 D1.st p8
  rcases (by omega : s (6 * p + 4) = 1 ∨ s (6 * p + 4) = 0) with d | d
  · rw [d] at e1 e2
    refine ⟨iI 0, M, gs_up M 147 0 (iI 0), ?_, ?_, hI0.ag (ma_g0 iv_ag.rf _)⟩
    · unfold f_X11_forge f_X11_onceAhead
      simp (disch := omega) only [qn0, qn1, qn2, qn3, qn4, qn5, qn6, qn7, qn8, qn9, qn10, qn11, qn12, qn13, qn14, qn15, qn16, qn17, qn18, qn24, qn30, qn31, qn32, qn33, qn36, qn38, qn40, qn41, qn42, qn43, qn45, qn47, qn48, qn49, qn50, qn51, qn52, qn53, qn57, qn58, qn59, qn60, qn61, qn62, qn63, qn91, qn93, qn97, qn99, qn100, qn103, qn104, qn112, qn113, qn115, qn116, qn118, qn119, qn121, qn124, qn173, qn177, qn240, qn255, qn295, qn352, qn353, qn533, qn999, qn1000, qn1023, qn6561, qn10000, qn20787, qn1000000, qn252645135, qn858993459, qn1000000000, qn1431655765, qj0, qj1, qj2, qj4, qj7, qj8, qj9, qj10, qj30, qj100, qj1000, qj1000000, qj1000000000, qj1442695040888963407, qj6364136223846793005, q_s1, q_s2, q_s3, q_s4, q_s5, iI_add, iI_sub, iI_mul, iI_neg, q_lt, q_le, q_eq, jI_add, jI_sub, jI_mul, jI_neg, jI_of, jI_to, j_le0, j_ge0, j_lt0, j_gt0, j_eq0, q_dvl, qz0, qz1, qz2, qz3, if_pos, if_neg, reduceIte, c_isP w C hp, e1]
    · unfold f_X12_forge f_X12_marks
      simp (disch := omega) only [qn0, qn1, qn2, qn3, qn4, qn5, qn6, qn7, qn8, qn9, qn10, qn11, qn12, qn13, qn14, qn15, qn16, qn17, qn18, qn24, qn30, qn31, qn32, qn33, qn36, qn38, qn40, qn41, qn42, qn43, qn45, qn47, qn48, qn49, qn50, qn51, qn52, qn53, qn57, qn58, qn59, qn60, qn61, qn62, qn63, qn91, qn93, qn97, qn99, qn100, qn103, qn104, qn112, qn113, qn115, qn116, qn118, qn119, qn121, qn124, qn173, qn177, qn240, qn255, qn295, qn352, qn353, qn533, qn999, qn1000, qn1023, qn6561, qn10000, qn20787, qn1000000, qn252645135, qn858993459, qn1000000000, qn1431655765, qj0, qj1, qj2, qj4, qj7, qj8, qj9, qj10, qj30, qj100, qj1000, qj1000000, qj1000000000, qj1442695040888963407, qj6364136223846793005, q_s1, q_s2, q_s3, q_s4, q_s5, iI_add, iI_sub, iI_mul, iI_neg, q_lt, q_le, q_eq, jI_add, jI_sub, jI_mul, jI_neg, jI_of, jI_to, j_le0, j_ge0, j_lt0, j_gt0, j_eq0, q_dvl, qz0, qz1, qz2, qz3, if_pos, if_neg, reduceIte, m_isP w D1 hp, e2]
  · obtain ⟨M1, M3, k1, D2, k2, D3, hI3⟩ := ma_act1 W C D L p8 (k := 4) (by decide) (v := 1) ⟨by decide, (ma_rg_b _).1⟩
    have e3 := m_of4 D2.st p8
    rw [d] at e1 e3
    refine ⟨iI 1, gs_up M1 10 (6 * p + 4) (iI 1), gs_up M3 158 (6 * p + 4) (iI 1), ?_, ?_, hI3⟩
    · unfold f_X11_forge f_X11_onceAhead
      simp (disch := omega) only [qn0, qn1, qn2, qn3, qn4, qn5, qn6, qn7, qn8, qn9, qn10, qn11, qn12, qn13, qn14, qn15, qn16, qn17, qn18, qn24, qn30, qn31, qn32, qn33, qn36, qn38, qn40, qn41, qn42, qn43, qn45, qn47, qn48, qn49, qn50, qn51, qn52, qn53, qn57, qn58, qn59, qn60, qn61, qn62, qn63, qn91, qn93, qn97, qn99, qn100, qn103, qn104, qn112, qn113, qn115, qn116, qn118, qn119, qn121, qn124, qn173, qn177, qn240, qn255, qn295, qn352, qn353, qn533, qn999, qn1000, qn1023, qn6561, qn10000, qn20787, qn1000000, qn252645135, qn858993459, qn1000000000, qn1431655765, qj0, qj1, qj2, qj4, qj7, qj8, qj9, qj10, qj30, qj100, qj1000, qj1000000, qj1000000000, qj1442695040888963407, qj6364136223846793005, q_s1, q_s2, q_s3, q_s4, q_s5, iI_add, iI_sub, iI_mul, iI_neg, q_lt, q_le, q_eq, jI_add, jI_sub, jI_mul, jI_neg, jI_of, jI_to, j_le0, j_ge0, j_lt0, j_gt0, j_eq0, q_dvl, qz0, qz1, qz2, qz3, if_pos, if_neg, reduceIte, c_isP w C hp, e1, k1, show ∀ x, f_X6_set M1 (iI p) (iI 4) x = some (gs_up M1 10 (6 * p + 4) x) from fun x => c_set (k := 4) p8 (by decide) x]
    · unfold f_X12_forge f_X12_marks
      simp (disch := omega) only [qn0, qn1, qn2, qn3, qn4, qn5, qn6, qn7, qn8, qn9, qn10, qn11, qn12, qn13, qn14, qn15, qn16, qn17, qn18, qn24, qn30, qn31, qn32, qn33, qn36, qn38, qn40, qn41, qn42, qn43, qn45, qn47, qn48, qn49, qn50, qn51, qn52, qn53, qn57, qn58, qn59, qn60, qn61, qn62, qn63, qn91, qn93, qn97, qn99, qn100, qn103, qn104, qn112, qn113, qn115, qn116, qn118, qn119, qn121, qn124, qn173, qn177, qn240, qn255, qn295, qn352, qn353, qn533, qn999, qn1000, qn1023, qn6561, qn10000, qn20787, qn1000000, qn252645135, qn858993459, qn1000000000, qn1431655765, qj0, qj1, qj2, qj4, qj7, qj8, qj9, qj10, qj30, qj100, qj1000, qj1000000, qj1000000000, qj1442695040888963407, qj6364136223846793005, q_s1, q_s2, q_s3, q_s4, q_s5, iI_add, iI_sub, iI_mul, iI_neg, q_lt, q_le, q_eq, jI_add, jI_sub, jI_mul, jI_neg, jI_of, jI_to, j_le0, j_ge0, j_lt0, j_gt0, j_eq0, q_dvl, qz0, qz1, qz2, qz3, if_pos, if_neg, reduceIte, m_isP w D2 hp, e3, k2, show ∀ x, gs_wr M3 158 533 (iI (6 * p + 4)) x = some (gs_up M3 158 (6 * p + 4) x) from fun x => m_set (k := 4) p8 (by decide) x]
theorem s_worry : gl_S_worry ma_Inv := by
  intro M L hI x1 x2
  have hI0 := hI
  obtain ⟨s, T, V, W, C, D⟩ := hI
  have w := W.2.1
  obtain ⟨f1, f2, f3, f4, f5, f6, f7, f8, f9, f10, f11, f12, f13, f14, -⟩ := W.2.1
  have D1 := ma_D0 D w (iI 0)
  rcases ma_isP W x1 with ⟨n1, n2⟩ | ⟨p, hp, p8, rfl⟩
  · refine ⟨iI (-1), M, gs_up M 147 0 (iI 0), ?_, ?_, hI0.ag (ma_g0 iv_ag.rf _)⟩
    · unfold f_X11_worry
      simp (disch := omega) only [qn0, qn1, qn2, qn3, qn4, qn5, qn6, qn7, qn8, qn9, qn10, qn11, qn12, qn13, qn14, qn15, qn16, qn17, qn18, qn24, qn30, qn31, qn32, qn33, qn36, qn38, qn40, qn41, qn42, qn43, qn45, qn47, qn48, qn49, qn50, qn51, qn52, qn53, qn57, qn58, qn59, qn60, qn61, qn62, qn63, qn91, qn93, qn97, qn99, qn100, qn103, qn104, qn112, qn113, qn115, qn116, qn118, qn119, qn121, qn124, qn173, qn177, qn240, qn255, qn295, qn352, qn353, qn533, qn999, qn1000, qn1023, qn6561, qn10000, qn20787, qn1000000, qn252645135, qn858993459, qn1000000000, qn1431655765, qj0, qj1, qj2, qj4, qj7, qj8, qj9, qj10, qj30, qj100, qj1000, qj1000000, qj1000000000, qj1442695040888963407, qj6364136223846793005, q_s1, q_s2, q_s3, q_s4, q_s5, iI_add, iI_sub, iI_mul, iI_neg, q_lt, q_le, q_eq, jI_add, jI_sub, jI_mul, jI_neg, jI_of, jI_to, j_le0, j_ge0, j_lt0, j_gt0, j_eq0, q_dvl, qz0, qz1, qz2, qz3, if_pos, if_neg, reduceIte, n1 M C]
    · unfold f_X12_worry
      simp (disch := omega) only [qn0, qn1, qn2, qn3, qn4, qn5, qn6, qn7, qn8, qn9, qn10, qn11, qn12, qn13, qn14, qn15, qn16, qn17, qn18, qn24, qn30, qn31, qn32, qn33, qn36, qn38, qn40, qn41, qn42, qn43, qn45, qn47, qn48, qn49, qn50, qn51, qn52, qn53, qn57, qn58, qn59, qn60, qn61, qn62, qn63, qn91, qn93, qn97, qn99, qn100, qn103, qn104, qn112, qn113, qn115, qn116, qn118, qn119, qn121, qn124, qn173, qn177, qn240, qn255, qn295, qn352, qn353, qn533, qn999, qn1000, qn1023, qn6561, qn10000, qn20787, qn1000000, qn252645135, qn858993459, qn1000000000, qn1431655765, qj0, qj1, qj2, qj4, qj7, qj8, qj9, qj10, qj30, qj100, qj1000, qj1000000, qj1000000000, qj1442695040888963407, qj6364136223846793005, q_s1, q_s2, q_s3, q_s4, q_s5, iI_add, iI_sub, iI_mul, iI_neg, q_lt, q_le, q_eq, jI_add, jI_sub, jI_mul, jI_neg, jI_of, jI_to, j_le0, j_ge0, j_lt0, j_gt0, j_eq0, q_dvl, qz0, qz1, qz2, qz3, if_pos, if_neg, reduceIte, n2 _ D1]
  obtain ⟨z, z1, z2, rfl⟩ := q_any x2
  have o := W.1.1 p p8
  unfold ma_one at o
  have e1 := c_of1 C.st p8
  have e2 := m_of1 D1.st p8
  rcases (by omega : z < 0 ∨ 9 < z ∨ (0 ≤ z ∧ z ≤ 9 ∧ s (6 * p + 1) = z) ∨ (0 ≤ z ∧ z ≤ 9 ∧ s (6 * p + 1) ≠ z)) with d | d | d | d
  · refine ⟨iI (-1), M, gs_up M 147 0 (iI 0), ?_, ?_, hI0.ag (ma_g0 iv_ag.rf _)⟩
    · unfold f_X11_worry
      simp (disch := omega) only [qn0, qn1, qn2, qn3, qn4, qn5, qn6, qn7, qn8, qn9, qn10, qn11, qn12, qn13, qn14, qn15, qn16, qn17, qn18, qn24, qn30, qn31, qn32, qn33, qn36, qn38, qn40, qn41, qn42, qn43, qn45, qn47, qn48, qn49, qn50, qn51, qn52, qn53, qn57, qn58, qn59, qn60, qn61, qn62, qn63, qn91, qn93, qn97, qn99, qn100, qn103, qn104, qn112, qn113, qn115, qn116, qn118, qn119, qn121, qn124, qn173, qn177, qn240, qn255, qn295, qn352, qn353, qn533, qn999, qn1000, qn1023, qn6561, qn10000, qn20787, qn1000000, qn252645135, qn858993459, qn1000000000, qn1431655765, qj0, qj1, qj2, qj4, qj7, qj8, qj9, qj10, qj30, qj100, qj1000, qj1000000, qj1000000000, qj1442695040888963407, qj6364136223846793005, q_s1, q_s2, q_s3, q_s4, q_s5, iI_add, iI_sub, iI_mul, iI_neg, q_lt, q_le, q_eq, jI_add, jI_sub, jI_mul, jI_neg, jI_of, jI_to, j_le0, j_ge0, j_lt0, j_gt0, j_eq0, q_dvl, qz0, qz1, qz2, qz3, if_pos, if_neg, reduceIte, c_isP w C hp, e1]
    · unfold f_X12_worry
      simp (disch := omega) only [qn0, qn1, qn2, qn3, qn4, qn5, qn6, qn7, qn8, qn9, qn10, qn11, qn12, qn13, qn14, qn15, qn16, qn17, qn18, qn24, qn30, qn31, qn32, qn33, qn36, qn38, qn40, qn41, qn42, qn43, qn45, qn47, qn48, qn49, qn50, qn51, qn52, qn53, qn57, qn58, qn59, qn60, qn61, qn62, qn63, qn91, qn93, qn97, qn99, qn100, qn103, qn104, qn112, qn113, qn115, qn116, qn118, qn119, qn121, qn124, qn173, qn177, qn240, qn255, qn295, qn352, qn353, qn533, qn999, qn1000, qn1023, qn6561, qn10000, qn20787, qn1000000, qn252645135, qn858993459, qn1000000000, qn1431655765, qj0, qj1, qj2, qj4, qj7, qj8, qj9, qj10, qj30, qj100, qj1000, qj1000000, qj1000000000, qj1442695040888963407, qj6364136223846793005, q_s1, q_s2, q_s3, q_s4, q_s5, iI_add, iI_sub, iI_mul, iI_neg, q_lt, q_le, q_eq, jI_add, jI_sub, jI_mul, jI_neg, jI_of, jI_to, j_le0, j_ge0, j_lt0, j_gt0, j_eq0, q_dvl, qz0, qz1, qz2, qz3, if_pos, if_neg, reduceIte, m_isP w D1 hp, e2, m_isOut, m_isIn]
  · refine ⟨iI (-1), M, gs_up M 147 0 (iI 0), ?_, ?_, hI0.ag (ma_g0 iv_ag.rf _)⟩
    · unfold f_X11_worry
      simp (disch := omega) only [qn0, qn1, qn2, qn3, qn4, qn5, qn6, qn7, qn8, qn9, qn10, qn11, qn12, qn13, qn14, qn15, qn16, qn17, qn18, qn24, qn30, qn31, qn32, qn33, qn36, qn38, qn40, qn41, qn42, qn43, qn45, qn47, qn48, qn49, qn50, qn51, qn52, qn53, qn57, qn58, qn59, qn60, qn61, qn62, qn63, qn91, qn93, qn97, qn99, qn100, qn103, qn104, qn112, qn113, qn115, qn116, qn118, qn119, qn121, qn124, qn173, qn177, qn240, qn255, qn295, qn352, qn353, qn533, qn999, qn1000, qn1023, qn6561, qn10000, qn20787, qn1000000, qn252645135, qn858993459, qn1000000000, qn1431655765, qj0, qj1, qj2, qj4, qj7, qj8, qj9, qj10, qj30, qj100, qj1000, qj1000000, qj1000000000, qj1442695040888963407, qj6364136223846793005, q_s1, q_s2, q_s3, q_s4, q_s5, iI_add, iI_sub, iI_mul, iI_neg, q_lt, q_le, q_eq, jI_add, jI_sub, jI_mul, jI_neg, jI_of, jI_to, j_le0, j_ge0, j_lt0, j_gt0, j_eq0, q_dvl, qz0, qz1, qz2, qz3, if_pos, if_neg, reduceIte, c_isP w C hp, e1]
    · unfold f_X12_worry
      simp (disch := omega) only [qn0, qn1, qn2, qn3, qn4, qn5, qn6, qn7, qn8, qn9, qn10, qn11, qn12, qn13, qn14, qn15, qn16, qn17, qn18, qn24, qn30, qn31, qn32, qn33, qn36, qn38, qn40, qn41, qn42, qn43, qn45, qn47, qn48, qn49, qn50, qn51, qn52, qn53, qn57, qn58, qn59, qn60, qn61, qn62, qn63, qn91, qn93, qn97, qn99, qn100, qn103, qn104, qn112, qn113, qn115, qn116, qn118, qn119, qn121, qn124, qn173, qn177, qn240, qn255, qn295, qn352, qn353, qn533, qn999, qn1000, qn1023, qn6561, qn10000, qn20787, qn1000000, qn252645135, qn858993459, qn1000000000, qn1431655765, qj0, qj1, qj2, qj4, qj7, qj8, qj9, qj10, qj30, qj100, qj1000, qj1000000, qj1000000000, qj1442695040888963407, qj6364136223846793005, q_s1, q_s2, q_s3, q_s4, q_s5, iI_add, iI_sub, iI_mul, iI_neg, q_lt, q_le, q_eq, jI_add, jI_sub, jI_mul, jI_neg, jI_of, jI_to, j_le0, j_ge0, j_lt0, j_gt0, j_eq0, q_dvl, qz0, qz1, qz2, qz3, if_pos, if_neg, reduceIte, m_isP w D1 hp, e2, m_isOut, m_isIn]
  · refine ⟨iI (-1), M, gs_up M 147 0 (iI 0), ?_, ?_, hI0.ag (ma_g0 iv_ag.rf _)⟩
    · unfold f_X11_worry
      simp (disch := omega) only [qn0, qn1, qn2, qn3, qn4, qn5, qn6, qn7, qn8, qn9, qn10, qn11, qn12, qn13, qn14, qn15, qn16, qn17, qn18, qn24, qn30, qn31, qn32, qn33, qn36, qn38, qn40, qn41, qn42, qn43, qn45, qn47, qn48, qn49, qn50, qn51, qn52, qn53, qn57, qn58, qn59, qn60, qn61, qn62, qn63, qn91, qn93, qn97, qn99, qn100, qn103, qn104, qn112, qn113, qn115, qn116, qn118, qn119, qn121, qn124, qn173, qn177, qn240, qn255, qn295, qn352, qn353, qn533, qn999, qn1000, qn1023, qn6561, qn10000, qn20787, qn1000000, qn252645135, qn858993459, qn1000000000, qn1431655765, qj0, qj1, qj2, qj4, qj7, qj8, qj9, qj10, qj30, qj100, qj1000, qj1000000, qj1000000000, qj1442695040888963407, qj6364136223846793005, q_s1, q_s2, q_s3, q_s4, q_s5, iI_add, iI_sub, iI_mul, iI_neg, q_lt, q_le, q_eq, jI_add, jI_sub, jI_mul, jI_neg, jI_of, jI_to, j_le0, j_ge0, j_lt0, j_gt0, j_eq0, q_dvl, qz0, qz1, qz2, qz3, if_pos, if_neg, reduceIte, c_isP w C hp, e1]
    · unfold f_X12_worry
      simp (disch := omega) only [qn0, qn1, qn2, qn3, qn4, qn5, qn6, qn7, qn8, qn9, qn10, qn11, qn12, qn13, qn14, qn15, qn16, qn17, qn18, qn24, qn30, qn31, qn32, qn33, qn36, qn38, qn40, qn41, qn42, qn43, qn45, qn47, qn48, qn49, qn50, qn51, qn52, qn53, qn57, qn58, qn59, qn60, qn61, qn62, qn63, qn91, qn93, qn97, qn99, qn100, qn103, qn104, qn112, qn113, qn115, qn116, qn118, qn119, qn121, qn124, qn173, qn177, qn240, qn255, qn295, qn352, qn353, qn533, qn999, qn1000, qn1023, qn6561, qn10000, qn20787, qn1000000, qn252645135, qn858993459, qn1000000000, qn1431655765, qj0, qj1, qj2, qj4, qj7, qj8, qj9, qj10, qj30, qj100, qj1000, qj1000000, qj1000000000, qj1442695040888963407, qj6364136223846793005, q_s1, q_s2, q_s3, q_s4, q_s5, iI_add, iI_sub, iI_mul, iI_neg, q_lt, q_le, q_eq, jI_add, jI_sub, jI_mul, jI_neg, jI_of, jI_to, j_le0, j_ge0, j_lt0, j_gt0, j_eq0, q_dvl, qz0, qz1, qz2, qz3, if_pos, if_neg, reduceIte, m_isP w D1 hp, e2, m_isOut, m_isIn]
  · obtain ⟨M1, M3, k1, D2, k2, D3, hI3⟩ := ma_act1 W C D L p8 (k := 1) (by decide) (v := z) (by have : ma_rg 1 = 9 := rfl; omega)
    have e3 := m_of1 D2.st p8
    have e4 := m_of1 D3.st p8
    refine ⟨iI (s (6 * p + 1)), gs_up M1 10 (6 * p + 1) (iI z), gs_up M3 158 (6 * p + 1) (iI z), ?_, ?_, hI3⟩
    · unfold f_X11_worry
      simp (disch := omega) only [qn0, qn1, qn2, qn3, qn4, qn5, qn6, qn7, qn8, qn9, qn10, qn11, qn12, qn13, qn14, qn15, qn16, qn17, qn18, qn24, qn30, qn31, qn32, qn33, qn36, qn38, qn40, qn41, qn42, qn43, qn45, qn47, qn48, qn49, qn50, qn51, qn52, qn53, qn57, qn58, qn59, qn60, qn61, qn62, qn63, qn91, qn93, qn97, qn99, qn100, qn103, qn104, qn112, qn113, qn115, qn116, qn118, qn119, qn121, qn124, qn173, qn177, qn240, qn255, qn295, qn352, qn353, qn533, qn999, qn1000, qn1023, qn6561, qn10000, qn20787, qn1000000, qn252645135, qn858993459, qn1000000000, qn1431655765, qj0, qj1, qj2, qj4, qj7, qj8, qj9, qj10, qj30, qj100, qj1000, qj1000000, qj1000000000, qj1442695040888963407, qj6364136223846793005, q_s1, q_s2, q_s3, q_s4, q_s5, iI_add, iI_sub, iI_mul, iI_neg, q_lt, q_le, q_eq, jI_add, jI_sub, jI_mul, jI_neg, jI_of, jI_to, j_le0, j_ge0, j_lt0, j_gt0, j_eq0, q_dvl, qz0, qz1, qz2, qz3, if_pos, if_neg, reduceIte, c_isP w C hp, e1, k1, show ∀ x, f_X6_set M1 (iI p) (iI 1) x = some (gs_up M1 10 (6 * p + 1) x) from fun x => c_set (k := 1) p8 (by decide) x]
    · unfold f_X12_worry
      simp (disch := omega) only [qn0, qn1, qn2, qn3, qn4, qn5, qn6, qn7, qn8, qn9, qn10, qn11, qn12, qn13, qn14, qn15, qn16, qn17, qn18, qn24, qn30, qn31, qn32, qn33, qn36, qn38, qn40, qn41, qn42, qn43, qn45, qn47, qn48, qn49, qn50, qn51, qn52, qn53, qn57, qn58, qn59, qn60, qn61, qn62, qn63, qn91, qn93, qn97, qn99, qn100, qn103, qn104, qn112, qn113, qn115, qn116, qn118, qn119, qn121, qn124, qn173, qn177, qn240, qn255, qn295, qn352, qn353, qn533, qn999, qn1000, qn1023, qn6561, qn10000, qn20787, qn1000000, qn252645135, qn858993459, qn1000000000, qn1431655765, qj0, qj1, qj2, qj4, qj7, qj8, qj9, qj10, qj30, qj100, qj1000, qj1000000, qj1000000000, qj1442695040888963407, qj6364136223846793005, q_s1, q_s2, q_s3, q_s4, q_s5, iI_add, iI_sub, iI_mul, iI_neg, q_lt, q_le, q_eq, jI_add, jI_sub, jI_mul, jI_neg, jI_of, jI_to, j_le0, j_ge0, j_lt0, j_gt0, j_eq0, q_dvl, qz0, qz1, qz2, qz3, if_pos, if_neg, reduceIte, m_isP w D2 hp, e3, m_isIn, k2, e4, show ∀ x, gs_wr M3 158 533 (iI (6 * p + 1)) x = some (gs_up M3 158 (6 * p + 1) x) from fun x => m_set (k := 1) p8 (by decide) x]
