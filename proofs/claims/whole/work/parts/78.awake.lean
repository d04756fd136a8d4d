/-! how many HOURS awake -/
def ma_aw (f : Nat → Int) : Nat → Nat → Int
  | 0, k => if k = 0 then 1000000000 else 0
  | h + 1, k => ma_aw f h k - (ma_aw f h k * f h).tdiv 10 + (if k = 0 then 0 else (ma_aw f h (k - 1) * f h).tdiv 10)
theorem ma_aw_n {f : Nat → Int} (hf : ∀ h, 0 ≤ f h ∧ f h ≤ 10) (h k : Nat) : 0 ≤ ma_aw f h k := by
  induction h generalizing k with
  | zero =>
    simp only [ma_aw]
    split <;> omega
  | succ h ih =>
    have h1 := ma_mul10 (ih k) (hf h)
    have h2 := ma_mul10 (ih (k - 1)) (hf h)
    have h3 := ih k
    simp only [ma_aw]
    rw [q_tdiv h1.1, q_tdiv h2.1]
    split <;> omega
theorem ma_aw_z {f : Nat → Int} {h k : Nat} (hk : h < k) : ma_aw f h k = 0 := by
  induction h generalizing k with
  | zero =>
    simp only [ma_aw]
    rw [if_neg (by omega)]
  | succ h ih =>
    simp only [ma_aw]
    rw [ih (show h < k by omega), ih (show h < k - 1 by omega), if_neg (by omega)]
    simp
theorem ma_aw_s {f : Nat → Int} (hf : ∀ h, 0 ≤ f h ∧ f h ≤ 10) (h n : Nat) : ma_sm n (ma_aw f (h + 1)) = ma_sm n (ma_aw f h) - (if n = 0 then 0 else (ma_aw f h (n - 1) * f h).tdiv 10) := by
  induction n with
  | zero => simp [ma_sm]
  | succ n ih =>
    simp only [ma_sm]
    rw [ih]
    have e : ma_aw f (h + 1) n = ma_aw f h n - (ma_aw f h n * f h).tdiv 10 + (if n = 0 then 0 else (ma_aw f h (n - 1) * f h).tdiv 10) := rfl
    rw [e, if_neg (show n + 1 ≠ 0 by omega), Nat.add_sub_cancel]
    omega
theorem ma_aw_t {f : Nat → Int} (hf : ∀ h, 0 ≤ f h ∧ f h ≤ 10) (h n : Nat) : ma_sm n (ma_aw f h) ≤ 1000000000 := by
  induction h with
  | zero =>
    induction n with
    | zero => simp [ma_sm]
    | succ n ih =>
      cases n with
      | zero => simp [ma_sm, ma_aw]
      | succ n =>
        simp only [ma_sm] at *
        have e : ma_aw f 0 (n + 1) = 0 := ma_aw_z (by omega)
        omega
  | succ h ih =>
    rw [ma_aw_s hf]
    have h1 := (ma_mul10 (ma_aw_n hf h (n - 1)) (hf h)).1
    split
    · omega
    · rw [q_tdiv h1]; omega
theorem ma_aw_p {f : Nat → Int} (hf : ∀ h, 0 ≤ f h ∧ f h ≤ 10) (h n : Nat) : 0 ≤ ma_sm n (ma_aw f h) := by
  induction n with
  | zero => simp [ma_sm]
  | succ n ih =>
    have := ma_aw_n hf h n
    simp only [ma_sm]
    omega
theorem ma_aw_b {f : Nat → Int} (hf : ∀ h, 0 ≤ f h ∧ f h ≤ 10) (h k : Nat) : 0 ≤ ma_aw f h k ∧ ma_aw f h k ≤ 1000000000 := by
  have h1 := ma_aw_t hf h (k + 1)
  have h2 := ma_aw_p hf h k
  simp only [ma_sm] at h1
  exact ⟨ma_aw_n hf h k, by omega⟩
/-- while one HOUR is shared out, from above -/
def ma_ar (A : Nat → Int) (v : Int) (i j : Nat) : Int := if i < j then A j - (A j * v).tdiv 10 + (if j = 0 then 0 else (A (j - 1) * v).tdiv 10) else if j = i then A j - (A j * v).tdiv 10 else A j
theorem ma_ar_gt {A : Nat → Int} {v : Int} {i j : Nat} (h : i < j) : ma_ar A v i j = A j - (A j * v).tdiv 10 + (A (j - 1) * v).tdiv 10 := by
  unfold ma_ar
  rw [if_pos h, if_neg (by omega)]
theorem ma_ar_eq {A : Nat → Int} {v : Int} {i : Nat} : ma_ar A v i i = A i - (A i * v).tdiv 10 := by
  unfold ma_ar
  rw [if_neg (by omega), if_pos rfl]
theorem ma_ar_lt {A : Nat → Int} {v : Int} {i j : Nat} (h : j < i) : ma_ar A v i j = A j := by
  unfold ma_ar
  rw [if_neg (by omega), if_neg (by omega)]
section Awake
variable {s : Nat → Int} {T : Nat → Nat → Int} {V : ma_V} {M : gs_M}
theorem c_aw1 {A : Nat → Int} (hA : ∀ k, 0 ≤ A k ∧ A k ≤ 1000000000) {v : Int} (hv : 0 ≤ v ∧ v ≤ 10) (x y : Int32) {h : Nat} (hh : h < 9) (hz : ∀ k, h < k → A k = 0) {N : gs_M} (hN : ∀ j, j < 10 → N 146 j = iI (A j)) : ∃ N1, l_X11_sharePartsOf_56 x y (iI v) gs_FU (iI h) N = some (iI (-1), N1) ∧ (∀ j, j < 10 → N1 146 j = iI (ma_ar A v 0 j)) ∧ ∀ r, r ≠ 146 → N1 r = N r := by
  obtain ⟨r, e, N1, rfl, h1, h2⟩ := ma_dn (fun f i (K : gs_M) => l_X11_sharePartsOf_56 x y (iI v) f i K) 9
    (fun i K => (∀ j, j < 10 → K 146 j = iI (ma_ar A v i j)) ∧ ∀ r, r ≠ 146 → K r = N r)
    (fun r => ∃ N1, r = (iI (-1), N1) ∧ (∀ j, j < 10 → N1 146 j = iI (ma_ar A v 0 j)) ∧ ∀ r, r ≠ 146 → N1 r = N r)
    (by
      rintro f i K hi ⟨h1, h2⟩
      left
      have a1 := hA i
      have a2 := hA (i + 1)
      have m1 := ma_mul10 a1.1 hv
      have r1 : ma_ar A v (i + 1) i = A i := ma_ar_lt (by omega)
      have r2 : ma_ar A v (i + 1) (i + 1) = A (i + 1) - (A (i + 1) * v).tdiv 10 := ma_ar_eq
      have e1 : gs_rd K 146 10 (iI i) = some (iI (A i)) := by rw [q_rdn i rfl (by omega) (by decide), h1 i (by omega), r1]
      have e2 : ∀ x, gs_wr K 146 10 (iI i) x = some (gs_up K 146 i x) := fun x => q_wrn i rfl (by omega) (by decide)
      have e3 : ∀ x, gs_rd (gs_up K 146 i x) 146 10 (iI (i + 1)) = some (iI (A (i + 1) - (A (i + 1) * v).tdiv 10)) := fun x => by
        rw [q_rdn (i + 1) (by omega) (by omega) (by decide), ma_cell_ne _ _ _ _ _ _ (by omega), h1 (i + 1) (by omega), r2]
      have e4 : ∀ (x : Int32) (K : gs_M), gs_wr K 146 10 (iI (i + 1)) x = some (gs_up K 146 (i + 1) x) := fun x K => q_wrn (i + 1) (by omega) (by omega) (by decide)
      refine ⟨gs_up (gs_up K 146 i (iI (A i - (A i * v).tdiv 10))) 146 (i + 1) (iI (A (i + 1) - (A (i + 1) * v).tdiv 10 + (A i * v).tdiv 10)), ?_, fun j hj => ?_, fun r hr => by rw [ma_row_ne _ _ _ _ _ hr, ma_row_ne _ _ _ _ _ hr, h2 r hr]⟩
      · simp only [l_X11_sharePartsOf_56]
        simp (disch := omega) only [qn0, qn1, qn2, qn3, qn4, qn5, qn6, qn7, qn8, qn9, qn10, qn11, qn12, qn13, qn14, qn15, qn16, qn17, qn18, qn24, qn30, qn31, qn32, qn33, qn36, qn38, qn40, qn41, qn42, qn43, qn45, qn47, qn48, qn49, qn50, qn51, qn52, qn53, qn57, qn58, qn59, qn60, qn61, qn62, qn63, qn91, qn93, qn97, qn99, qn100, qn103, qn104, qn112, qn113, qn115, qn116, qn118, qn119, qn121, qn124, qn173, qn177, qn240, qn255, qn295, qn352, qn353, qn533, qn999, qn1000, qn1023, qn6561, qn10000, qn20787, qn1000000, qn252645135, qn858993459, qn1000000000, qn1431655765, qj0, qj1, qj2, qj4, qj7, qj8, qj9, qj10, qj30, qj100, qj1000, qj1000000, qj1000000000, qj1442695040888963407, qj6364136223846793005, q_s1, q_s2, q_s3, q_s4, q_s5, iI_add, iI_sub, iI_mul, iI_neg, q_lt, q_le, q_eq, jI_add, jI_sub, jI_mul, jI_neg, jI_of, jI_to, j_le0, j_ge0, j_lt0, j_gt0, j_eq0, q_dvl, qz0, qz1, qz2, qz3, if_pos, if_neg, reduceIte, e1, e2, e3, e4]
      · rcases (by omega : j = i + 1 ∨ j = i ∨ j < i ∨ i + 1 < j) with c | c | c | c
        · subst c
          rw [gs_up_eq, ma_ar_gt (by omega), Nat.add_sub_cancel]
        · subst c
          rw [ma_cell_ne _ _ _ _ _ _ (by omega), gs_up_eq, ma_ar_eq]
        · rw [ma_cell_ne _ _ _ _ _ _ (by omega), ma_cell_ne _ _ _ _ _ _ (by omega), h1 j hj, ma_ar_lt (by omega), ma_ar_lt c]
        · rw [ma_cell_ne _ _ _ _ _ _ (by omega), ma_cell_ne _ _ _ _ _ _ (by omega), h1 j hj, ma_ar_gt c, ma_ar_gt (by omega)])
    (by
      rintro f K ⟨h1, h2⟩
      refine ⟨_, ?_, K, rfl, h1, h2⟩
      simp only [l_X11_sharePartsOf_56]
      simp (disch := omega) only [qn0, qn1, qn2, qn3, qn4, qn5, qn6, qn7, qn8, qn9, qn10, qn11, qn12, qn13, qn14, qn15, qn16, qn17, qn18, qn24, qn30, qn31, qn32, qn33, qn36, qn38, qn40, qn41, qn42, qn43, qn45, qn47, qn48, qn49, qn50, qn51, qn52, qn53, qn57, qn58, qn59, qn60, qn61, qn62, qn63, qn91, qn93, qn97, qn99, qn100, qn103, qn104, qn112, qn113, qn115, qn116, qn118, qn119, qn121, qn124, qn173, qn177, qn240, qn255, qn295, qn352, qn353, qn533, qn999, qn1000, qn1023, qn6561, qn10000, qn20787, qn1000000, qn252645135, qn858993459, qn1000000000, qn1431655765, qj0, qj1, qj2, qj4, qj7, qj8, qj9, qj10, qj30, qj100, qj1000, qj1000000, qj1000000000, qj1442695040888963407, qj6364136223846793005, q_s1, q_s2, q_s3, q_s4, q_s5, iI_add, iI_sub, iI_mul, iI_neg, q_lt, q_le, q_eq, jI_add, jI_sub, jI_mul, jI_neg, jI_of, jI_to, j_le0, j_ge0, j_lt0, j_gt0, j_eq0, q_dvl, qz0, qz1, qz2, qz3, if_pos, if_neg, reduceIte])
    (h + 1) N gs_FU (by omega) ⟨fun j hj => by
      rw [hN j hj]
      rcases (by omega : j < h + 1 ∨ j = h + 1 ∨ h + 1 < j) with c | c | c
      · rw [ma_ar_lt c]
      · rw [c, ma_ar_eq, hz (h + 1) (by omega)]
        simp
      · rw [ma_ar_gt c, hz j (by omega), hz (j - 1) (by omega)]
        simp, fun _ _ => rfl⟩ (by show h + 1 < 30000; omega)
  rw [show ((h + 1 : Nat) : Int) + -1 = h by omega] at e
  exact ⟨N1, e, h1, h2⟩
theorem m_aw1 {A : Nat → Int} (hA : ∀ k, 0 ≤ A k ∧ A k ≤ 1000000000) {v : Int} (hv : 0 ≤ v ∧ v ≤ 10) (x y z : Int32) (hz : ∀ k, 9 < k → A k = 0) {L : gs_L} (hN : ∀ j, j < 11 → L 161 j = jI (A j)) : ∃ L1, l_X12_awake_85 M x y z (iI v) gs_FU (iI 9) L = some (iI (-1), L1) ∧ (∀ j, j < 11 → L1 161 j = jI (ma_ar A v 0 j)) := by
  have U : ∀ (L : gs_L) (i j : Nat) (x : Int64), gs_upl L 161 i x 161 j = if j = i then x else L 161 j := fun L i j x => by
    rw [gs_upl_at]
    by_cases c : j = i
    · rw [if_pos ⟨rfl, c⟩, if_pos c]
    · rw [if_neg (fun z => c z.2), if_neg c]
  obtain ⟨r, e, N1, rfl, h1⟩ := ma_dn (fun f i (K : gs_L) => l_X12_awake_85 M x y z (iI v) f i K) 10
    (fun i K => (∀ j, j < 11 → K 161 j = jI (ma_ar A v i j)))
    (fun r => ∃ N1, r = (iI (-1), N1) ∧ (∀ j, j < 11 → N1 161 j = jI (ma_ar A v 0 j)))
    (by
      rintro f i K hi h1
      left
      have a1 := hA i
      have a2 := hA (i + 1)
      have m1 := ma_mul10 a1.1 hv
      have r1 : ma_ar A v (i + 1) i = A i := ma_ar_lt (by omega)
      have r2 : ma_ar A v (i + 1) (i + 1) = A (i + 1) - (A (i + 1) * v).tdiv 10 := ma_ar_eq
      have e1 : gs_rdl K 161 11 (iI i) = some (jI (A i)) := by rw [q_rdln i rfl (by omega) (by decide), h1 i (by omega), r1]
      have e2 : ∀ x, gs_wrl K 161 11 (iI i) x = some (gs_upl K 161 i x) := fun x => q_wrln i rfl (by omega) (by decide)
      have e3 : ∀ x, gs_rdl (gs_upl K 161 i x) 161 11 (iI (i + 1)) = some (jI (A (i + 1) - (A (i + 1) * v).tdiv 10)) := fun x => by
        rw [q_rdln (i + 1) (by omega) (by omega) (by decide), U, if_neg (by omega), h1 (i + 1) (by omega), r2]
      have e4 : ∀ (x : Int64) (K : gs_L), gs_wrl K 161 11 (iI (i + 1)) x = some (gs_upl K 161 (i + 1) x) := fun x K => q_wrln (i + 1) (by omega) (by omega) (by decide)
      refine ⟨gs_upl (gs_upl K 161 i (jI (A i - (A i * v).tdiv 10))) 161 (i + 1) (jI (A (i + 1) - (A (i + 1) * v).tdiv 10 + (A i * v).tdiv 10)), ?_, fun j hj => ?_⟩
      · simp only [l_X12_awake_85]
        simp (disch := omega) only [qn0, qn1, qn2, qn3, qn4, qn5, qn6, qn7, qn8, qn9, qn10, qn11, qn12, qn13, qn14, qn15, qn16, qn17, qn18, qn24, qn30, qn31, qn32, qn33, qn36, qn38, qn40, qn41, qn42, qn43, qn45, qn47, qn48, qn49, qn50, qn51, qn52, qn53, qn57, qn58, qn59, qn60, qn61, qn62, qn63, qn91, qn93, qn97, qn99, qn100, qn103, qn104, qn112, qn113, qn115, qn116, qn118, qn119, qn121, qn124, qn173, qn177, qn240, qn255, qn295, qn352, qn353, qn533, qn999, qn1000, qn1023, qn6561, qn10000, qn20787, qn1000000, qn252645135, qn858993459, qn1000000000, qn1431655765, qj0, qj1, qj2, qj4, qj7, qj8, qj9, qj10, qj30, qj100, qj1000, qj1000000, qj1000000000, qj1442695040888963407, qj6364136223846793005, q_s1, q_s2, q_s3, q_s4, q_s5, iI_add, iI_sub, iI_mul, iI_neg, q_lt, q_le, q_eq, jI_add, jI_sub, jI_mul, jI_neg, jI_of, jI_to, j_le0, j_ge0, j_lt0, j_gt0, j_eq0, q_dvl, qz0, qz1, qz2, qz3, if_pos, if_neg, reduceIte, e1, e2, e3, e4]
      · rw [U, U]
        rcases (by omega : j = i + 1 ∨ j = i ∨ j < i ∨ i + 1 < j) with c | c | c | c
        · rw [if_pos c]
          subst c
          rw [ma_ar_gt (by omega), Nat.add_sub_cancel]
        · rw [if_neg (by omega), if_pos c]
          subst c
          rw [ma_ar_eq]
        · rw [if_neg (by omega), if_neg (by omega), h1 j hj, ma_ar_lt (by omega), ma_ar_lt c]
        · rw [if_neg (by omega), if_neg (by omega), h1 j hj, ma_ar_gt c, ma_ar_gt (by omega)])
    (by
      rintro f K h1
      refine ⟨_, ?_, K, rfl, h1⟩
      simp only [l_X12_awake_85]
      simp (disch := omega) only [qn0, qn1, qn2, qn3, qn4, qn5, qn6, qn7, qn8, qn9, qn10, qn11, qn12, qn13, qn14, qn15, qn16, qn17, qn18, qn24, qn30, qn31, qn32, qn33, qn36, qn38, qn40, qn41, qn42, qn43, qn45, qn47, qn48, qn49, qn50, qn51, qn52, qn53, qn57, qn58, qn59, qn60, qn61, qn62, qn63, qn91, qn93, qn97, qn99, qn100, qn103, qn104, qn112, qn113, qn115, qn116, qn118, qn119, qn121, qn124, qn173, qn177, qn240, qn255, qn295, qn352, qn353, qn533, qn999, qn1000, qn1023, qn6561, qn10000, qn20787, qn1000000, qn252645135, qn858993459, qn1000000000, qn1431655765, qj0, qj1, qj2, qj4, qj7, qj8, qj9, qj10, qj30, qj100, qj1000, qj1000000, qj1000000000, qj1442695040888963407, qj6364136223846793005, q_s1, q_s2, q_s3, q_s4, q_s5, iI_add, iI_sub, iI_mul, iI_neg, q_lt, q_le, q_eq, jI_add, jI_sub, jI_mul, jI_neg, jI_of, jI_to, j_le0, j_ge0, j_lt0, j_gt0, j_eq0, q_dvl, qz0, qz1, qz2, qz3, if_pos, if_neg, reduceIte])
    10 L gs_FU (by omega) (fun j hj => by
      rw [hN j hj]
      rcases (by omega : j < 10 ∨ j = 10) with c | c
      · rw [ma_ar_lt c]
      · rw [c, ma_ar_eq, hz 10 (by omega)]
        simp) (by decide)
  exact ⟨N1, e, h1⟩
theorem ma_ar0 (f : Nat → Int) (h j : Nat) : ma_ar (ma_aw f h) (f h) 0 j = ma_aw f (h + 1) j := by
  rcases (by omega : 0 < j ∨ j = 0) with c | c
  · rw [ma_ar_gt c]
    simp only [ma_aw]
    rw [if_neg (by omega)]
  · subst c
    rw [ma_ar_eq]
    simp [ma_aw]
theorem c_aw (W : ma_W s T V) (C : ma_C s T V M) {p : Nat} (hp : (p : Int) < T 3 0) : ∃ M1, f_X11_sharePartsOf M (iI p) = some M1 ∧ iv_co M M1 ∧ ∀ j, j < 10 → M1 146 j = iI (ma_aw (ma_now s T V p) (T 1 0).toNat j) := by
  have w := W.2.1
  have f2 := W.2.1.2.1
  have hb := ma_now_b s T V p
  obtain ⟨r, e, N, rfl, h1, h2⟩ := ma_up0 (fun f i (k : gs_M) => l_X11_sharePartsOf_2 (iI p) f i k) 10
    (fun i k => (∀ j, j < i → k 146 j = iI 0) ∧ ∀ r, r ≠ 146 → k r = M r)
    (fun r => ∃ N, r = (iI (10 : Nat), N) ∧ (∀ j, j < 10 → N 146 j = iI 0) ∧ ∀ r, r ≠ 146 → N r = M r) M (by decide) ⟨fun j hj => by omega, fun _ _ => rfl⟩
    (by
      rintro f i k hi ⟨h1, h2⟩
      left
      have e4 : ∀ v, gs_wr k 146 10 (iI i) v = some (gs_up k 146 i v) := fun v => q_wrn i rfl hi (by decide)
      refine ⟨gs_up k 146 i (iI 0), ?_, fun j hj => ?_, fun r hr => by rw [ma_row_ne _ _ _ _ _ hr, h2 r hr]⟩
      · simp only [l_X11_sharePartsOf_2]
        simp (disch := omega) only [qn0, qn1, qn2, qn3, qn4, qn5, qn6, qn7, qn8, qn9, qn10, qn11, qn12, qn13, qn14, qn15, qn16, qn17, qn18, qn24, qn30, qn31, qn32, qn33, qn36, qn38, qn40, qn41, qn42, qn43, qn45, qn47, qn48, qn49, qn50, qn51, qn52, qn53, qn57, qn58, qn59, qn60, qn61, qn62, qn63, qn91, qn93, qn97, qn99, qn100, qn103, qn104, qn112, qn113, qn115, qn116, qn118, qn119, qn121, qn124, qn173, qn177, qn240, qn255, qn295, qn352, qn353, qn533, qn999, qn1000, qn1023, qn6561, qn10000, qn20787, qn1000000, qn252645135, qn858993459, qn1000000000, qn1431655765, q_s1, q_s2, q_s3, q_s4, q_s5, iI_add, iI_sub, iI_mul, iI_neg, q_lt, q_le, q_eq, qz0, qz1, qz2, qz3, if_pos, if_neg, reduceIte, e4]
      · by_cases c : j = i
        · subst c
          rw [gs_up_eq]
        · rw [ma_cell_ne _ _ _ _ _ _ (by omega)]
          exact h1 j (by omega))
    (by
      rintro f k ⟨h1, h2⟩
      refine ⟨_, ?_, k, rfl, h1, h2⟩
      simp only [l_X11_sharePartsOf_2]
      simp (disch := omega) only [qn0, qn1, qn2, qn3, qn4, qn5, qn6, qn7, qn8, qn9, qn10, qn11, qn12, qn13, qn14, qn15, qn16, qn17, qn18, qn24, qn30, qn31, qn32, qn33, qn36, qn38, qn40, qn41, qn42, qn43, qn45, qn47, qn48, qn49, qn50, qn51, qn52, qn53, qn57, qn58, qn59, qn60, qn61, qn62, qn63, qn91, qn93, qn97, qn99, qn100, qn103, qn104, qn112, qn113, qn115, qn116, qn118, qn119, qn121, qn124, qn173, qn177, qn240, qn255, qn295, qn352, qn353, qn533, qn999, qn1000, qn1023, qn6561, qn10000, qn20787, qn1000000, qn252645135, qn858993459, qn1000000000, qn1431655765, q_s1, q_s2, q_s3, q_s4, q_s5, iI_add, iI_sub, iI_mul, iI_neg, q_lt, q_le, q_eq, qz0, qz1, qz2, qz3, if_pos, if_neg, reduceIte])
  have e' : l_X11_sharePartsOf_2 (iI p) gs_FU (iI 0) M = some (iI (10 : Nat), N) := e
  have co : ∀ {K K' : gs_M}, (∀ r, r ≠ 146 → K' r = K r) → iv_co K K' := fun {K K'} h a b e => by
    by_cases c : a = 146
    · subst c
      cases e
    · rw [h a c]
  have x0 : ∀ v, gs_wr N 146 10 (iI 0) v = some (gs_up N 146 0 v) := fun v => q_wrn (z := 0) 0 rfl (by decide) (by decide)
  obtain ⟨r, e2, N2, rfl, h3, h4⟩ := ma_up0 (fun f i (k : gs_M) => l_X11_sharePartsOf_32 (iI p) f i k) (T 1 0).toNat
    (fun i k => iv_co M k ∧ ∀ j, j < 10 → k 146 j = iI (ma_aw (ma_now s T V p) i j))
    (fun r => ∃ N2, r = (iI ((T 1 0).toNat : Nat), N2) ∧ iv_co M N2 ∧ ∀ j, j < 10 → N2 146 j = iI (ma_aw (ma_now s T V p) (T 1 0).toNat j)) (gs_up N 146 0 (iI 1000000000)) (by omega) ⟨(co h2).up _ rfl, fun j hj => by
      by_cases c : j = 0
      · subst c
        rw [gs_up_eq]
        rfl
      · rw [ma_cell_ne _ _ _ _ _ _ (by omega), h1 j hj]
        simp only [ma_aw]
        rw [if_neg c]⟩
    (by
      rintro f i k hi ⟨h3, h4⟩
      left
      have CN := C.co w h3
      obtain ⟨N1, e1, g1⟩ := c_nw W CN (p := p) (h := i) hp (by omega)
      obtain ⟨N3, e3, h5, h6⟩ := c_aw1 (A := ma_aw (ma_now s T V p) i) (ma_aw_b hb i) (hb i) (iI p) (iI i) (h := i) (by omega) (fun k hk => ma_aw_z hk) (N := N1) (fun j hj => by rw [g1 146 j rfl, h4 j hj])
      refine ⟨N3, ?_, (h3.tr g1.co).tr (co h6), fun j hj => by rw [h5 j hj, ma_ar0]⟩
      simp only [l_X11_sharePartsOf_32]
      simp (disch := omega) only [qn0, qn1, qn2, qn3, qn4, qn5, qn6, qn7, qn8, qn9, qn10, qn11, qn12, qn13, qn14, qn15, qn16, qn17, qn18, qn24, qn30, qn31, qn32, qn33, qn36, qn38, qn40, qn41, qn42, qn43, qn45, qn47, qn48, qn49, qn50, qn51, qn52, qn53, qn57, qn58, qn59, qn60, qn61, qn62, qn63, qn91, qn93, qn97, qn99, qn100, qn103, qn104, qn112, qn113, qn115, qn116, qn118, qn119, qn121, qn124, qn173, qn177, qn240, qn255, qn295, qn352, qn353, qn533, qn999, qn1000, qn1023, qn6561, qn10000, qn20787, qn1000000, qn252645135, qn858993459, qn1000000000, qn1431655765, q_s1, q_s2, q_s3, q_s4, q_s5, iI_add, iI_sub, iI_mul, iI_neg, q_lt, q_le, q_eq, qz0, qz1, qz2, qz3, if_pos, if_neg, reduceIte, c_hours CN, e1, e3])
    (by
      rintro f k ⟨h3, h4⟩
      have CN := C.co w h3
      refine ⟨_, ?_, k, rfl, h3, h4⟩
      simp only [l_X11_sharePartsOf_32]
      simp (disch := omega) only [qn0, qn1, qn2, qn3, qn4, qn5, qn6, qn7, qn8, qn9, qn10, qn11, qn12, qn13, qn14, qn15, qn16, qn17, qn18, qn24, qn30, qn31, qn32, qn33, qn36, qn38, qn40, qn41, qn42, qn43, qn45, qn47, qn48, qn49, qn50, qn51, qn52, qn53, qn57, qn58, qn59, qn60, qn61, qn62, qn63, qn91, qn93, qn97, qn99, qn100, qn103, qn104, qn112, qn113, qn115, qn116, qn118, qn119, qn121, qn124, qn173, qn177, qn240, qn255, qn295, qn352, qn353, qn533, qn999, qn1000, qn1023, qn6561, qn10000, qn20787, qn1000000, qn252645135, qn858993459, qn1000000000, qn1431655765, q_s1, q_s2, q_s3, q_s4, q_s5, iI_add, iI_sub, iI_mul, iI_neg, q_lt, q_le, q_eq, qz0, qz1, qz2, qz3, if_pos, if_neg, reduceIte, c_hours CN])
  have e2' : l_X11_sharePartsOf_32 (iI p) gs_FU (iI 0) (gs_up N 146 0 (iI 1000000000)) = some (iI ((T 1 0).toNat : Nat), N2) := e2
  refine ⟨N2, ?_, h3, h4⟩
  unfold f_X11_sharePartsOf
  simp (disch := omega) only [qn0, qn1, qn2, qn3, qn4, qn5, qn6, qn7, qn8, qn9, qn10, qn11, qn12, qn13, qn14, qn15, qn16, qn17, qn18, qn24, qn30, qn31, qn32, qn33, qn36, qn38, qn40, qn41, qn42, qn43, qn45, qn47, qn48, qn49, qn50, qn51, qn52, qn53, qn57, qn58, qn59, qn60, qn61, qn62, qn63, qn91, qn93, qn97, qn99, qn100, qn103, qn104, qn112, qn113, qn115, qn116, qn118, qn119, qn121, qn124, qn173, qn177, qn240, qn255, qn295, qn352, qn353, qn533, qn999, qn1000, qn1023, qn6561, qn10000, qn20787, qn1000000, qn252645135, qn858993459, qn1000000000, qn1431655765, q_s1, q_s2, q_s3, q_s4, q_s5, iI_add, iI_sub, iI_mul, iI_neg, q_lt, q_le, q_eq, qz0, qz1, qz2, qz3, if_pos, if_neg, reduceIte, e', x0, e2']
theorem c_aws {A : Nat → Int} (x y : Int32) {n : Nat} (hn : n ≤ 9) (hN : ∀ j, j < 10 → M 146 j = iI (A j)) : l_X11_awake_30 M x y gs_FU (iI 0) (iI n) = some (iI (ma_sm 10 A - ma_sm n A), iI 10) := by
  obtain ⟨r, e, hr⟩ := ma_up (fun f i (q : Int32) => l_X11_awake_30 M x y f q i) 10
    (fun i q => q = iI (ma_sm i A - ma_sm n A)) (fun r => r = (iI (ma_sm 10 A - ma_sm n A), iI 10))
    (by
      rintro f i q hi rfl
      left
      have e1 : gs_rd M 146 10 (iI i) = some (iI (A i)) := by rw [q_rdn i rfl (by omega) (by decide), hN i hi]
      refine ⟨_, ?_, rfl⟩
      simp only [l_X11_awake_30, ma_sm]
      rw [show ma_sm i A + A i - ma_sm n A = ma_sm i A - ma_sm n A + A i by omega]
      simp (disch := omega) only [qn0, qn1, qn2, qn3, qn4, qn5, qn6, qn7, qn8, qn9, qn10, qn11, qn12, qn13, qn14, qn15, qn16, qn17, qn18, qn24, qn30, qn31, qn32, qn33, qn36, qn38, qn40, qn41, qn42, qn43, qn45, qn47, qn48, qn49, qn50, qn51, qn52, qn53, qn57, qn58, qn59, qn60, qn61, qn62, qn63, qn91, qn93, qn97, qn99, qn100, qn103, qn104, qn112, qn113, qn115, qn116, qn118, qn119, qn121, qn124, qn173, qn177, qn240, qn255, qn295, qn352, qn353, qn533, qn999, qn1000, qn1023, qn6561, qn10000, qn20787, qn1000000, qn252645135, qn858993459, qn1000000000, qn1431655765, q_s1, q_s2, q_s3, q_s4, q_s5, iI_add, iI_sub, iI_mul, iI_neg, q_lt, q_le, q_eq, qz0, qz1, qz2, qz3, if_pos, if_neg, reduceIte, e1])
    (by
      rintro f q rfl
      refine ⟨_, ?_, rfl⟩
      simp only [l_X11_awake_30]
      simp (disch := omega) only [qn0, qn1, qn2, qn3, qn4, qn5, qn6, qn7, qn8, qn9, qn10, qn11, qn12, qn13, qn14, qn15, qn16, qn17, qn18, qn24, qn30, qn31, qn32, qn33, qn36, qn38, qn40, qn41, qn42, qn43, qn45, qn47, qn48, qn49, qn50, qn51, qn52, qn53, qn57, qn58, qn59, qn60, qn61, qn62, qn63, qn91, qn93, qn97, qn99, qn100, qn103, qn104, qn112, qn113, qn115, qn116, qn118, qn119, qn121, qn124, qn173, qn177, qn240, qn255, qn295, qn352, qn353, qn533, qn999, qn1000, qn1023, qn6561, qn10000, qn20787, qn1000000, qn252645135, qn858993459, qn1000000000, qn1431655765, q_s1, q_s2, q_s3, q_s4, q_s5, iI_add, iI_sub, iI_mul, iI_neg, q_lt, q_le, q_eq, qz0, qz1, qz2, qz3, if_pos, if_neg, reduceIte]
      rfl)
    (10 - n) n (iI (ma_sm n A - ma_sm n A)) gs_FU (by omega) rfl (by show 10 - n < 30000; omega)
  subst hr
  rw [Int.sub_self] at e
  exact e
theorem m_aw (W : ma_W s T V) (D : ma_M s T V M) {p : Nat} (hp : (p : Int) < T 3 0) (x : Int32) (L : gs_L) : ∃ L0 M1 L1, l_X12_awake_29 M (iI p) x gs_FU (iI 0) L = some (iI 11, L0) ∧ l_X12_awake_63 (iI p) x gs_FU (iI 0) M L0 = some (iI ((T 1 0).toNat : Nat), M1, L1) ∧ iv_ag M M1 ∧ ∀ j, j < 11 → L1 161 j = jI (ma_aw (ma_now s T V p) (T 1 0).toNat j) := by
  have w := W.2.1
  have f2 := W.2.1.2.1
  have hb := ma_now_b s T V p
  have U : ∀ (L : gs_L) (i j : Nat) (x : Int64), gs_upl L 161 i x 161 j = if j = i then x else L 161 j := fun L i j x => by
    rw [gs_upl_at]
    by_cases c : j = i
    · rw [if_pos ⟨rfl, c⟩, if_pos c]
    · rw [if_neg (fun z => c z.2), if_neg c]
  obtain ⟨r, e, L0, rfl, h1⟩ := ma_up0 (fun f i (k : gs_L) => l_X12_awake_29 M (iI p) x f i k) 11
    (fun i k => ∀ j, j < i → k 161 j = jI (ma_aw (ma_now s T V p) 0 j))
    (fun r => ∃ N, r = (iI (11 : Nat), N) ∧ ∀ j, j < 11 → N 161 j = jI (ma_aw (ma_now s T V p) 0 j)) L (by decide) (fun j hj => by omega)
    (by
      rintro f i k hi h1
      left
      have e4 : ∀ v, gs_wrl k 161 11 (iI i) v = some (gs_upl k 161 i v) := fun v => q_wrln i rfl hi (by decide)
      refine ⟨gs_upl k 161 i (jI (ma_aw (ma_now s T V p) 0 i)), ?_, fun j hj => ?_⟩
      · simp only [l_X12_awake_29, ma_aw]
        rcases (by omega : i = 0 ∨ 0 < i) with c | c <;> simp (disch := omega) only [qn0, qn1, qn2, qn3, qn4, qn5, qn6, qn7, qn8, qn9, qn10, qn11, qn12, qn13, qn14, qn15, qn16, qn17, qn18, qn24, qn30, qn31, qn32, qn33, qn36, qn38, qn40, qn41, qn42, qn43, qn45, qn47, qn48, qn49, qn50, qn51, qn52, qn53, qn57, qn58, qn59, qn60, qn61, qn62, qn63, qn91, qn93, qn97, qn99, qn100, qn103, qn104, qn112, qn113, qn115, qn116, qn118, qn119, qn121, qn124, qn173, qn177, qn240, qn255, qn295, qn352, qn353, qn533, qn999, qn1000, qn1023, qn6561, qn10000, qn20787, qn1000000, qn252645135, qn858993459, qn1000000000, qn1431655765, qj0, qj1, qj2, qj4, qj7, qj8, qj9, qj10, qj30, qj100, qj1000, qj1000000, qj1000000000, qj1442695040888963407, qj6364136223846793005, q_s1, q_s2, q_s3, q_s4, q_s5, iI_add, iI_sub, iI_mul, iI_neg, q_lt, q_le, q_eq, jI_add, jI_sub, jI_mul, jI_neg, jI_of, jI_to, j_le0, j_ge0, j_lt0, j_gt0, j_eq0, q_dvl, qz0, qz1, qz2, qz3, if_pos, if_neg, reduceIte, e4]
      · rw [U]
        by_cases c : j = i
        · rw [if_pos c, c]
        · rw [if_neg c]
          exact h1 j (by omega))
    (by
      rintro f k h1
      refine ⟨_, ?_, k, rfl, h1⟩
      simp only [l_X12_awake_29]
      simp (disch := omega) only [qn0, qn1, qn2, qn3, qn4, qn5, qn6, qn7, qn8, qn9, qn10, qn11, qn12, qn13, qn14, qn15, qn16, qn17, qn18, qn24, qn30, qn31, qn32, qn33, qn36, qn38, qn40, qn41, qn42, qn43, qn45, qn47, qn48, qn49, qn50, qn51, qn52, qn53, qn57, qn58, qn59, qn60, qn61, qn62, qn63, qn91, qn93, qn97, qn99, qn100, qn103, qn104, qn112, qn113, qn115, qn116, qn118, qn119, qn121, qn124, qn173, qn177, qn240, qn255, qn295, qn352, qn353, qn533, qn999, qn1000, qn1023, qn6561, qn10000, qn20787, qn1000000, qn252645135, qn858993459, qn1000000000, qn1431655765, qj0, qj1, qj2, qj4, qj7, qj8, qj9, qj10, qj30, qj100, qj1000, qj1000000, qj1000000000, qj1442695040888963407, qj6364136223846793005, q_s1, q_s2, q_s3, q_s4, q_s5, iI_add, iI_sub, iI_mul, iI_neg, q_lt, q_le, q_eq, jI_add, jI_sub, jI_mul, jI_neg, jI_of, jI_to, j_le0, j_ge0, j_lt0, j_gt0, j_eq0, q_dvl, qz0, qz1, qz2, qz3, if_pos, if_neg, reduceIte])
  obtain ⟨r, e2, N2, L2, rfl, h3, h4⟩ := ma_up0 (fun f i (k : gs_M × gs_L) => l_X12_awake_63 (iI p) x f i k.1 k.2) (T 1 0).toNat
    (fun i k => iv_ag M k.1 ∧ ∀ j, j < 11 → k.2 161 j = jI (ma_aw (ma_now s T V p) i j))
    (fun r => ∃ N2 L2, r = (iI ((T 1 0).toNat : Nat), N2, L2) ∧ iv_ag M N2 ∧ ∀ j, j < 11 → L2 161 j = jI (ma_aw (ma_now s T V p) (T 1 0).toNat j)) (M, L0) (by omega) ⟨iv_ag.rf, h1⟩
    (by
      rintro f i ⟨k, l⟩ hi ⟨h3, h4⟩
      left
      simp only at h3 h4
      have CN := D.ag w h3
      obtain ⟨N1, e1, g1⟩ := m_nw W CN (p := p) (h := i) hp (by omega)
      obtain ⟨L3, e3, h5⟩ := m_aw1 (M := N1) (A := ma_aw (ma_now s T V p) i) (ma_aw_b hb i) (hb i) (iI p) x (iI i) (fun k hk => ma_aw_z (by omega)) (L := l) h4
      refine ⟨(N1, L3), ?_, h3.tr g1, fun j hj => by simp only; rw [h5 j hj, ma_ar0]⟩
      simp only [l_X12_awake_63]
      simp (disch := omega) only [qn0, qn1, qn2, qn3, qn4, qn5, qn6, qn7, qn8, qn9, qn10, qn11, qn12, qn13, qn14, qn15, qn16, qn17, qn18, qn24, qn30, qn31, qn32, qn33, qn36, qn38, qn40, qn41, qn42, qn43, qn45, qn47, qn48, qn49, qn50, qn51, qn52, qn53, qn57, qn58, qn59, qn60, qn61, qn62, qn63, qn91, qn93, qn97, qn99, qn100, qn103, qn104, qn112, qn113, qn115, qn116, qn118, qn119, qn121, qn124, qn173, qn177, qn240, qn255, qn295, qn352, qn353, qn533, qn999, qn1000, qn1023, qn6561, qn10000, qn20787, qn1000000, qn252645135, qn858993459, qn1000000000, qn1431655765, q_s1, q_s2, q_s3, q_s4, q_s5, iI_add, iI_sub, iI_mul, iI_neg, q_lt, q_le, q_eq, qz0, qz1, qz2, qz3, if_pos, if_neg, reduceIte, m_rule0 CN, e1, e3])
    (by
      rintro f ⟨k, l⟩ ⟨h3, h4⟩
      have CN := D.ag w h3
      refine ⟨_, ?_, k, l, rfl, h3, h4⟩
      simp only [l_X12_awake_63]
      simp (disch := omega) only [qn0, qn1, qn2, qn3, qn4, qn5, qn6, qn7, qn8, qn9, qn10, qn11, qn12, qn13, qn14, qn15, qn16, qn17, qn18, qn24, qn30, qn31, qn32, qn33, qn36, qn38, qn40, qn41, qn42, qn43, qn45, qn47, qn48, qn49, qn50, qn51, qn52, qn53, qn57, qn58, qn59, qn60, qn61, qn62, qn63, qn91, qn93, qn97, qn99, qn100, qn103, qn104, qn112, qn113, qn115, qn116, qn118, qn119, qn121, qn124, qn173, qn177, qn240, qn255, qn295, qn352, qn353, qn533, qn999, qn1000, qn1023, qn6561, qn10000, qn20787, qn1000000, qn252645135, qn858993459, qn1000000000, qn1431655765, q_s1, q_s2, q_s3, q_s4, q_s5, iI_add, iI_sub, iI_mul, iI_neg, q_lt, q_le, q_eq, qz0, qz1, qz2, qz3, if_pos, if_neg, reduceIte, m_rule0 CN])
  exact ⟨L0, N2, L2, e, e2, h3, h4⟩
theorem m_aws {A : Nat → Int} (L : gs_L) (x y : Int32) {n : Nat} (hn : n ≤ 9) (hN : ∀ j, j < 11 → L 161 j = jI (A j)) : l_X12_awake_150 M L x y gs_FU (jI 0) (iI n) = some (jI (ma_sm 11 A - ma_sm n A), iI 11) := by
  obtain ⟨r, e, hr⟩ := ma_up (fun f i (q : Int64) => l_X12_awake_150 M L x y f q i) 11
    (fun i q => q = jI (ma_sm i A - ma_sm n A)) (fun r => r = (jI (ma_sm 11 A - ma_sm n A), iI 11))
    (by
      rintro f i q hi rfl
      left
      have e1 : gs_rdl L 161 11 (iI i) = some (jI (A i)) := by rw [q_rdln i rfl (by omega) (by decide), hN i hi]
      refine ⟨_, ?_, rfl⟩
      simp only [l_X12_awake_150, ma_sm]
      rw [show ma_sm i A + A i - ma_sm n A = ma_sm i A - ma_sm n A + A i by omega]
      simp (disch := omega) only [qn0, qn1, qn2, qn3, qn4, qn5, qn6, qn7, qn8, qn9, qn10, qn11, qn12, qn13, qn14, qn15, qn16, qn17, qn18, qn24, qn30, qn31, qn32, qn33, qn36, qn38, qn40, qn41, qn42, qn43, qn45, qn47, qn48, qn49, qn50, qn51, qn52, qn53, qn57, qn58, qn59, qn60, qn61, qn62, qn63, qn91, qn93, qn97, qn99, qn100, qn103, qn104, qn112, qn113, qn115, qn116, qn118, qn119, qn121, qn124, qn173, qn177, qn240, qn255, qn295, qn352, qn353, qn533, qn999, qn1000, qn1023, qn6561, qn10000, qn20787, qn1000000, qn252645135, qn858993459, qn1000000000, qn1431655765, qj0, qj1, qj2, qj4, qj7, qj8, qj9, qj10, qj30, qj100, qj1000, qj1000000, qj1000000000, qj1442695040888963407, qj6364136223846793005, q_s1, q_s2, q_s3, q_s4, q_s5, iI_add, iI_sub, iI_mul, iI_neg, q_lt, q_le, q_eq, jI_add, jI_sub, jI_mul, jI_neg, jI_of, jI_to, j_le0, j_ge0, j_lt0, j_gt0, j_eq0, q_dvl, qz0, qz1, qz2, qz3, if_pos, if_neg, reduceIte, e1])
    (by
      rintro f q rfl
      refine ⟨_, ?_, rfl⟩
      simp only [l_X12_awake_150]
      simp (disch := omega) only [qn0, qn1, qn2, qn3, qn4, qn5, qn6, qn7, qn8, qn9, qn10, qn11, qn12, qn13, qn14, qn15, qn16, qn17, qn18, qn24, qn30, qn31, qn32, qn33, qn36, qn38, qn40, qn41, qn42, qn43, qn45, qn47, qn48, qn49, qn50, qn51, qn52, qn53, qn57, qn58, qn59, qn60, qn61, qn62, qn63, qn91, qn93, qn97, qn99, qn100, qn103, qn104, qn112, qn113, qn115, qn116, qn118, qn119, qn121, qn124, qn173, qn177, qn240, qn255, qn295, qn352, qn353, qn533, qn999, qn1000, qn1023, qn6561, qn10000, qn20787, qn1000000, qn252645135, qn858993459, qn1000000000, qn1431655765, qj0, qj1, qj2, qj4, qj7, qj8, qj9, qj10, qj30, qj100, qj1000, qj1000000, qj1000000000, qj1442695040888963407, qj6364136223846793005, q_s1, q_s2, q_s3, q_s4, q_s5, iI_add, iI_sub, iI_mul, iI_neg, q_lt, q_le, q_eq, jI_add, jI_sub, jI_mul, jI_neg, jI_of, jI_to, j_le0, j_ge0, j_lt0, j_gt0, j_eq0, q_dvl, qz0, qz1, qz2, qz3, if_pos, if_neg, reduceIte]
      rfl)
    (11 - n) n (jI (ma_sm n A - ma_sm n A)) gs_FU (by omega) rfl (by show 11 - n < 30000; omega)
  subst hr
  rw [Int.sub_self] at e
  exact e
end Awake
theorem s_awake : gl_S_awake ma_Inv := by
  intro M L hI x1 x2
  have hI0 := hI
  obtain ⟨s, T, V, W, C, D⟩ := hI
  have w := W.2.1
  obtain ⟨f1, f2, f3, f4, f5, f6, f7, f8, f9, f10, f11, f12, f13, f14, -⟩ := W.2.1
  have D1 := ma_D0 D w (iI 0)
  rcases ma_isP W x1 with ⟨n1, n2⟩ | ⟨p, hp, p8, rfl⟩
  · refine ⟨iI (-1), M, gs_up M 147 0 (iI 0), L, ?_, ?_, hI0.ag (ma_g0 iv_ag.rf _)⟩
    · unfold f_X11_awake
      simp (disch := omega) only [qn0, qn1, qn2, qn3, qn4, qn5, qn6, qn7, qn8, qn9, qn10, qn11, qn12, qn13, qn14, qn15, qn16, qn17, qn18, qn24, qn30, qn31, qn32, qn33, qn36, qn38, qn40, qn41, qn42, qn43, qn45, qn47, qn48, qn49, qn50, qn51, qn52, qn53, qn57, qn58, qn59, qn60, qn61, qn62, qn63, qn91, qn93, qn97, qn99, qn100, qn103, qn104, qn112, qn113, qn115, qn116, qn118, qn119, qn121, qn124, qn173, qn177, qn240, qn255, qn295, qn352, qn353, qn533, qn999, qn1000, qn1023, qn6561, qn10000, qn20787, qn1000000, qn252645135, qn858993459, qn1000000000, qn1431655765, qj0, qj1, qj2, qj4, qj7, qj8, qj9, qj10, qj30, qj100, qj1000, qj1000000, qj1000000000, qj1442695040888963407, qj6364136223846793005, q_s1, q_s2, q_s3, q_s4, q_s5, iI_add, iI_sub, iI_mul, iI_neg, q_lt, q_le, q_eq, jI_add, jI_sub, jI_mul, jI_neg, jI_of, jI_to, j_le0, j_ge0, j_lt0, j_gt0, j_eq0, q_dvl, qz0, qz1, qz2, qz3, if_pos, if_neg, reduceIte, n1 M C]
    · unfold f_X12_awake
      simp (disch := omega) only [qn0, qn1, qn2, qn3, qn4, qn5, qn6, qn7, qn8, qn9, qn10, qn11, qn12, qn13, qn14, qn15, qn16, qn17, qn18, qn24, qn30, qn31, qn32, qn33, qn36, qn38, qn40, qn41, qn42, qn43, qn45, qn47, qn48, qn49, qn50, qn51, qn52, qn53, qn57, qn58, qn59, qn60, qn61, qn62, qn63, qn91, qn93, qn97, qn99, qn100, qn103, qn104, qn112, qn113, qn115, qn116, qn118, qn119, qn121, qn124, qn173, qn177, qn240, qn255, qn295, qn352, qn353, qn533, qn999, qn1000, qn1023, qn6561, qn10000, qn20787, qn1000000, qn252645135, qn858993459, qn1000000000, qn1431655765, qj0, qj1, qj2, qj4, qj7, qj8, qj9, qj10, qj30, qj100, qj1000, qj1000000, qj1000000000, qj1442695040888963407, qj6364136223846793005, q_s1, q_s2, q_s3, q_s4, q_s5, iI_add, iI_sub, iI_mul, iI_neg, q_lt, q_le, q_eq, jI_add, jI_sub, jI_mul, jI_neg, jI_of, jI_to, j_le0, j_ge0, j_lt0, j_gt0, j_eq0, q_dvl, qz0, qz1, qz2, qz3, if_pos, if_neg, reduceIte, n2 _ D1]
  obtain ⟨z, z1, z2, rfl⟩ := q_any x2
  rcases (by omega : z < 0 ∨ 9 < z ∨ (0 ≤ z ∧ z ≤ 9)) with d | d | d
  · refine ⟨iI (-1), M, gs_up M 147 0 (iI 0), L, ?_, ?_, hI0.ag (ma_g0 iv_ag.rf _)⟩
    · unfold f_X11_awake
      simp (disch := omega) only [qn0, qn1, qn2, qn3, qn4, qn5, qn6, qn7, qn8, qn9, qn10, qn11, qn12, qn13, qn14, qn15, qn16, qn17, qn18, qn24, qn30, qn31, qn32, qn33, qn36, qn38, qn40, qn41, qn42, qn43, qn45, qn47, qn48, qn49, qn50, qn51, qn52, qn53, qn57, qn58, qn59, qn60, qn61, qn62, qn63, qn91, qn93, qn97, qn99, qn100, qn103, qn104, qn112, qn113, qn115, qn116, qn118, qn119, qn121, qn124, qn173, qn177, qn240, qn255, qn295, qn352, qn353, qn533, qn999, qn1000, qn1023, qn6561, qn10000, qn20787, qn1000000, qn252645135, qn858993459, qn1000000000, qn1431655765, qj0, qj1, qj2, qj4, qj7, qj8, qj9, qj10, qj30, qj100, qj1000, qj1000000, qj1000000000, qj1442695040888963407, qj6364136223846793005, q_s1, q_s2, q_s3, q_s4, q_s5, iI_add, iI_sub, iI_mul, iI_neg, q_lt, q_le, q_eq, jI_add, jI_sub, jI_mul, jI_neg, jI_of, jI_to, j_le0, j_ge0, j_lt0, j_gt0, j_eq0, q_dvl, qz0, qz1, qz2, qz3, if_pos, if_neg, reduceIte, c_isP w C hp]
    · unfold f_X12_awake
      simp (disch := omega) only [qn0, qn1, qn2, qn3, qn4, qn5, qn6, qn7, qn8, qn9, qn10, qn11, qn12, qn13, qn14, qn15, qn16, qn17, qn18, qn24, qn30, qn31, qn32, qn33, qn36, qn38, qn40, qn41, qn42, qn43, qn45, qn47, qn48, qn49, qn50, qn51, qn52, qn53, qn57, qn58, qn59, qn60, qn61, qn62, qn63, qn91, qn93, qn97, qn99, qn100, qn103, qn104, qn112, qn113, qn115, qn116, qn118, qn119, qn121, qn124, qn173, qn177, qn240, qn255, qn295, qn352, qn353, qn533, qn999, qn1000, qn1023, qn6561, qn10000, qn20787, qn1000000, qn252645135, qn858993459, qn1000000000, qn1431655765, qj0, qj1, qj2, qj4, qj7, qj8, qj9, qj10, qj30, qj100, qj1000, qj1000000, qj1000000000, qj1442695040888963407, qj6364136223846793005, q_s1, q_s2, q_s3, q_s4, q_s5, iI_add, iI_sub, iI_mul, iI_neg, q_lt, q_le, q_eq, jI_add, jI_sub, jI_mul, jI_neg, jI_of, jI_to, j_le0, j_ge0, j_lt0, j_gt0, j_eq0, q_dvl, qz0, qz1, qz2, qz3, if_pos, if_neg, reduceIte, m_isP w D1 hp, m_isOut]
  · refine ⟨iI (-1), M, gs_up M 147 0 (iI 0), L, ?_, ?_, hI0.ag (ma_g0 iv_ag.rf _)⟩
    · unfold f_X11_awake
      simp (disch := omega) only [qn0, qn1, qn2, qn3, qn4, qn5, qn6, qn7, qn8, qn9, qn10, qn11, qn12, qn13, qn14, qn15, qn16, qn17, qn18, qn24, qn30, qn31, qn32, qn33, qn36, qn38, qn40, qn41, qn42, qn43, qn45, qn47, qn48, qn49, qn50, qn51, qn52, qn53, qn57, qn58, qn59, qn60, qn61, qn62, qn63, qn91, qn93, qn97, qn99, qn100, qn103, qn104, qn112, qn113, qn115, qn116, qn118, qn119, qn121, qn124, qn173, qn177, qn240, qn255, qn295, qn352, qn353, qn533, qn999, qn1000, qn1023, qn6561, qn10000, qn20787, qn1000000, qn252645135, qn858993459, qn1000000000, qn1431655765, qj0, qj1, qj2, qj4, qj7, qj8, qj9, qj10, qj30, qj100, qj1000, qj1000000, qj1000000000, qj1442695040888963407, qj6364136223846793005, q_s1, q_s2, q_s3, q_s4, q_s5, iI_add, iI_sub, iI_mul, iI_neg, q_lt, q_le, q_eq, jI_add, jI_sub, jI_mul, jI_neg, jI_of, jI_to, j_le0, j_ge0, j_lt0, j_gt0, j_eq0, q_dvl, qz0, qz1, qz2, qz3, if_pos, if_neg, reduceIte, c_isP w C hp]
    · unfold f_X12_awake
      simp (disch := omega) only [qn0, qn1, qn2, qn3, qn4, qn5, qn6, qn7, qn8, qn9, qn10, qn11, qn12, qn13, qn14, qn15, qn16, qn17, qn18, qn24, qn30, qn31, qn32, qn33, qn36, qn38, qn40, qn41, qn42, qn43, qn45, qn47, qn48, qn49, qn50, qn51, qn52, qn53, qn57, qn58, qn59, qn60, qn61, qn62, qn63, qn91, qn93, qn97, qn99, qn100, qn103, qn104, qn112, qn113, qn115, qn116, qn118, qn119, qn121, qn124, qn173, qn177, qn240, qn255, qn295, qn352, qn353, qn533, qn999, qn1000, qn1023, qn6561, qn10000, qn20787, qn1000000, qn252645135, qn858993459, qn1000000000, qn1431655765, qj0, qj1, qj2, qj4, qj7, qj8, qj9, qj10, qj30, qj100, qj1000, qj1000000, qj1000000000, qj1442695040888963407, qj6364136223846793005, q_s1, q_s2, q_s3, q_s4, q_s5, iI_add, iI_sub, iI_mul, iI_neg, q_lt, q_le, q_eq, jI_add, jI_sub, jI_mul, jI_neg, jI_of, jI_to, j_le0, j_ge0, j_lt0, j_gt0, j_eq0, q_dvl, qz0, qz1, qz2, qz3, if_pos, if_neg, reduceIte, m_isP w D1 hp, m_isOut]
  · obtain ⟨n, rfl⟩ : ∃ n : Nat, z = n := ⟨z.toNat, by omega⟩
    obtain ⟨M1, e1, g1, h1⟩ := c_aw W C hp
    have e2 := c_aws (iI p) (iI n) (n := n) (by omega) h1
    have D2 := ma_D0 (D.co w g1) w (iI 0)
    obtain ⟨L0, M2, L2, e3, e4, g2, h2⟩ := m_aw W D2 hp (iI n) L
    have e5 := m_aws (M := M2) L2 (iI p) (iI n) (n := n) (by omega) h2
    have z10 : ma_sm 11 (ma_aw (ma_now s T V p) (T 1 0).toNat) = ma_sm 10 (ma_aw (ma_now s T V p) (T 1 0).toNat) := by
      show ma_sm 10 _ + ma_aw (ma_now s T V p) (T 1 0).toNat 10 = _
      rw [ma_aw_z (by omega)]
      omega
    rw [z10] at e5
    refine ⟨iI (ma_sm 10 (ma_aw (ma_now s T V p) (T 1 0).toNat) - ma_sm n (ma_aw (ma_now s T V p) (T 1 0).toNat)), M1, M2, L2, ?_, ?_, hI0.co ((g1.up _ rfl).tr g2.co)⟩
    · unfold f_X11_awake
      simp (disch := omega) only [qn0, qn1, qn2, qn3, qn4, qn5, qn6, qn7, qn8, qn9, qn10, qn11, qn12, qn13, qn14, qn15, qn16, qn17, qn18, qn24, qn30, qn31, qn32, qn33, qn36, qn38, qn40, qn41, qn42, qn43, qn45, qn47, qn48, qn49, qn50, qn51, qn52, qn53, qn57, qn58, qn59, qn60, qn61, qn62, qn63, qn91, qn93, qn97, qn99, qn100, qn103, qn104, qn112, qn113, qn115, qn116, qn118, qn119, qn121, qn124, qn173, qn177, qn240, qn255, qn295, qn352, qn353, qn533, qn999, qn1000, qn1023, qn6561, qn10000, qn20787, qn1000000, qn252645135, qn858993459, qn1000000000, qn1431655765, q_s1, q_s2, q_s3, q_s4, q_s5, iI_add, iI_sub, iI_mul, iI_neg, q_lt, q_le, q_eq, qz0, qz1, qz2, qz3, if_pos, if_neg, reduceIte, c_isP w C hp, e1, e2]
    · unfold f_X12_awake
      simp (disch := omega) only [qn0, qn1, qn2, qn3, qn4, qn5, qn6, qn7, qn8, qn9, qn10, qn11, qn12, qn13, qn14, qn15, qn16, qn17, qn18, qn24, qn30, qn31, qn32, qn33, qn36, qn38, qn40, qn41, qn42, qn43, qn45, qn47, qn48, qn49, qn50, qn51, qn52, qn53, qn57, qn58, qn59, qn60, qn61, qn62, qn63, qn91, qn93, qn97, qn99, qn100, qn103, qn104, qn112, qn113, qn115, qn116, qn118, qn119, qn121, qn124, qn173, qn177, qn240, qn255, qn295, qn352, qn353, qn533, qn999, qn1000, qn1023, qn6561, qn10000, qn20787, qn1000000, qn252645135, qn858993459, qn1000000000, qn1431655765, qj0, qj1, qj2, qj4, qj7, qj8, qj9, qj10, qj30, qj100, qj1000, qj1000000, qj1000000000, qj1442695040888963407, qj6364136223846793005, q_s1, q_s2, q_s3, q_s4, q_s5, iI_add, iI_sub, iI_mul, iI_neg, q_lt, q_le, q_eq, jI_add, jI_sub, jI_mul, jI_neg, jI_of, jI_to, j_le0, j_ge0, j_lt0, j_gt0, j_eq0, q_dvl, qz0, qz1, qz2, qz3, if_pos, if_neg, reduceIte, m_isP w D2 hp, m_isIn, e3, e4, e5]
