/-! NIGHTS and YEARS by draws -/
theorem q_rml {a b : Int} (h : 0 ≤ a ∧ a < 9223372036854775808 ∧ 0 < b ∧ b < 9223372036854775808) : gs_rml (jI a) (jI b) = some (jI (a % b)) := by
  have h1 : ¬ jI b = 0 := by
    intro e
    have e2 : jI b = jI 0 := e
    rw [j_eq (by omega)] at e2
    omega
  have e := q_dvl (a := a) (b := b) (by omega)
  unfold gs_dvl at e
  rw [if_neg h1] at e
  unfold gs_rml
  rw [if_neg h1, Option.some.inj e, q_tdiv h.1, jI_mul, jI_sub]
  congr 2
  rw [Int.emod_def, Int.mul_comm]
def ma_nx (x : Int64) : Int64 := (x * (6364136223846793005 : Int64)) + (1442695040888963407 : Int64)
def ma_dv (x : Int64) (m : Int) : Int := ((x.toUInt64.toNat / 2 ^ 33 : Nat) : Int) % m
theorem ma_dv_b (x : Int64) {m : Int} (hm : 0 < m) : 0 ≤ ma_dv x m ∧ ma_dv x m < m := ⟨Int.emod_nonneg _ (by omega), Int.emod_lt_of_pos _ hm⟩
theorem q_u64 (u : UInt64) : u.toInt64 = jI (u.toNat : Int) := by
  apply Int64.toBitVec_inj.1
  show u.toBitVec = BitVec.ofInt 64 (u.toNat : Int)
  rw [BitVec.ofInt_natCast]
  apply BitVec.eq_of_toNat_eq
  rw [BitVec.toNat_ofNat]
  have := u.toNat_lt
  show u.toNat = u.toNat % 2 ^ 64
  omega
theorem q_draw (x : Int64) {m : Int} (hm : 0 < m ∧ m < 2147483648) : gs_rml ((Int64.toUInt64 x >>> ((Int32.toInt64 (33 : Int32)).toUInt64 &&& Int64.toUInt64 63)).toInt64) (Int32.toInt64 (iI m)) = some (jI (ma_dv x m)) := by
  have e0 : ((Int32.toInt64 (33 : Int32)).toUInt64 &&& Int64.toUInt64 63) = 33 := by decide
  have e1 : (Int64.toUInt64 x >>> (33 : UInt64)).toNat = x.toUInt64.toNat / 2 ^ 33 := by
    rw [UInt64.toNat_shiftRight, Nat.shiftRight_eq_div_pow]
    rfl
  have h := x.toUInt64.toNat_lt
  have h2 : x.toUInt64.toNat / 2 ^ 33 < 2147483648 := by
    apply Nat.div_lt_of_lt_mul
    omega
  rw [e0, q_u64, e1, jI_of (by omega), q_rml (by omega)]
  rfl
theorem c_draw (L : gs_L) {m : Int} (hm : 0 < m ∧ m < 2147483648) : f_X5_draw L (iI m) = some (iI (ma_dv (ma_nx (L 132 5)) m), gs_upl L 132 5 (ma_nx (L 132 5))) := by
  have h0 : ¬ (iI m ≤ (0 : Int32)) := by
    rw [qn0, q_le (by omega)]
    omega
  have e : (gs_upl L 132 5 (ma_nx (L 132 5))) 132 5 = ma_nx (L 132 5) := by simp [gs_upl]
  have e2 := q_draw (ma_nx (L 132 5)) hm
  unfold f_X5_draw
  rw [gs_s1, if_neg h0]
  rw [show ((L 132 5) * (6364136223846793005 : Int64)) + (1442695040888963407 : Int64) = ma_nx (L 132 5) from rfl]
  rw [e, e2, gs_s1, gs_s1, jI_to]
theorem m_draw (L : gs_L) {m : Int} (hm : 0 < m ∧ m < 2147483648) : f_X12_draw L (iI m) = some (iI (ma_dv (ma_nx (L 147 32)) m), gs_upl L 147 32 (ma_nx (L 147 32))) := by
  have e : (gs_upl L 147 32 (ma_nx (L 147 32))) 147 32 = ma_nx (L 147 32) := by simp [gs_upl]
  have e2 := q_draw (ma_nx (L 147 32)) hm
  unfold f_X12_draw
  rw [gs_s1]
  rw [show ((L 147 32) * (6364136223846793005 : Int64)) + (1442695040888963407 : Int64) = ma_nx (L 147 32) from rfl]
  rw [e, e2, gs_s1, jI_to]
section Night
variable {s : Nat → Int} {T : Nat → Nat → Int} {V : ma_V} {M : gs_M}
/-- whom the WATCH that holds sees -/
def ma_se (T : Nat → Nat → Int) (h : Nat) : Int := if T 3 3 = -1 then -1 else T 5 (9 * (T 3 3).toNat + h)
theorem ma_se_b (w : ma_wT T) {h : Nat} (hh : h < 9) : -1 ≤ ma_se T h ∧ ma_se T h ≤ 8 := by
  obtain ⟨f1, f2, f3, f4, f5, f6, f7, f8, f9, f10, f11, f12, f13, f14, f15, f16, -⟩ := id w
  unfold ma_se
  split
  · omega
  · exact f16 _ h (by omega) hh
theorem c_seen (w : ma_wT T) (C : ma_C s T V M) {h : Nat} (hh : h < 9) : f_X10_seenAt M (iI h) = some (iI (ma_se T h)) := by
  obtain ⟨f1, f2, f3, f4, f5, f6, f7, f8, f9, f10, -⟩ := id w
  have e := C.wa
  unfold f_X10_seenAt ma_se
  by_cases c : T 3 3 = -1
  · rw [c] at e
    simp (disch := omega) only [qn0, qn1, qn2, qn3, qn4, qn5, qn6, qn7, qn8, qn9, qn10, qn11, qn12, qn13, qn14, qn15, qn16, qn17, qn18, qn24, qn30, qn31, qn32, qn33, qn36, qn38, qn40, qn41, qn42, qn43, qn45, qn47, qn48, qn49, qn50, qn51, qn52, qn53, qn57, qn58, qn59, qn60, qn61, qn62, qn63, qn91, qn93, qn97, qn99, qn100, qn103, qn104, qn112, qn113, qn115, qn116, qn118, qn119, qn121, qn124, qn173, qn177, qn240, qn255, qn295, qn352, qn353, qn533, qn999, qn1000, qn1023, qn6561, qn10000, qn20787, qn1000000, qn252645135, qn858993459, qn1000000000, qn1431655765, q_s1, q_s2, q_s3, q_s4, q_s5, iI_add, iI_sub, iI_mul, iI_neg, q_lt, q_le, q_eq, qz0, qz1, qz2, qz3, if_pos, if_neg, reduceIte, e, c]
  · obtain ⟨k, hk⟩ : ∃ k : Nat, T 3 3 = k := ⟨(T 3 3).toNat, by omega⟩
    rw [hk] at e
    have e2 := c_toldAt w C (k := k) (h := h) (by omega) hh
    rw [hk, Int.toNat_natCast]
    simp (disch := omega) only [qn0, qn1, qn2, qn3, qn4, qn5, qn6, qn7, qn8, qn9, qn10, qn11, qn12, qn13, qn14, qn15, qn16, qn17, qn18, qn24, qn30, qn31, qn32, qn33, qn36, qn38, qn40, qn41, qn42, qn43, qn45, qn47, qn48, qn49, qn50, qn51, qn52, qn53, qn57, qn58, qn59, qn60, qn61, qn62, qn63, qn91, qn93, qn97, qn99, qn100, qn103, qn104, qn112, qn113, qn115, qn116, qn118, qn119, qn121, qn124, qn173, qn177, qn240, qn255, qn295, qn352, qn353, qn533, qn999, qn1000, qn1023, qn6561, qn10000, qn20787, qn1000000, qn252645135, qn858993459, qn1000000000, qn1431655765, q_s1, q_s2, q_s3, q_s4, q_s5, iI_add, iI_sub, iI_mul, iI_neg, q_lt, q_le, q_eq, qz0, qz1, qz2, qz3, if_pos, if_neg, reduceIte, e, e2]
theorem m_seen (w : ma_wT T) (C : ma_M s T V M) {h : Nat} (hh : h < 9) : f_X12_watchedBy M (M 147 30) (iI h) = some (iI (ma_se T h)) := by
  obtain ⟨f1, f2, f3, f4, f5, f6, f7, f8, f9, f10, -⟩ := id w
  have e := C.wa
  rw [e]
  unfold ma_se
  by_cases c : T 3 3 = -1
  · rw [c]
    unfold f_X12_watchedBy
    simp (disch := omega) only [qn0, qn1, qn2, qn3, qn4, qn5, qn6, qn7, qn8, qn9, qn10, qn11, qn12, qn13, qn14, qn15, qn16, qn17, qn18, qn24, qn30, qn31, qn32, qn33, qn36, qn38, qn40, qn41, qn42, qn43, qn45, qn47, qn48, qn49, qn50, qn51, qn52, qn53, qn57, qn58, qn59, qn60, qn61, qn62, qn63, qn91, qn93, qn97, qn99, qn100, qn103, qn104, qn112, qn113, qn115, qn116, qn118, qn119, qn121, qn124, qn173, qn177, qn240, qn255, qn295, qn352, qn353, qn533, qn999, qn1000, qn1023, qn6561, qn10000, qn20787, qn1000000, qn252645135, qn858993459, qn1000000000, qn1431655765, q_s1, q_s2, q_s3, q_s4, q_s5, iI_add, iI_sub, iI_mul, iI_neg, q_lt, q_le, q_eq, qz0, qz1, qz2, qz3, if_pos, if_neg, reduceIte]
  · obtain ⟨k, hk⟩ : ∃ k : Nat, T 3 3 = k := ⟨(T 3 3).toNat, by omega⟩
    rw [hk, Int.toNat_natCast, if_neg (by omega)]
    exact m_watB w C (by omega) hh
/-- the state, who was awake how often, the draws -/
abbrev ma_Q : Type := (Nat → Int) × (Nat → Int) × Int64
def ma_ns (T : Nat → Nat → Int) (V : ma_V) (h p : Nat) (q : ma_Q) : ma_Q :=
  (if ma_se T h = p ∧ q.1 (6 * p + 5) = 0 then ma_wb q.1 h p (if ma_dv (ma_nx q.2.2) 10 < ma_now q.1 T V p h ∨ q.1 (6 * p + 4) = 1 then 1 else 0) else q.1,
   ma_su q.2.1 p (q.2.1 p + if ma_dv (ma_nx q.2.2) 10 < ma_now q.1 T V p h then 1 else 0), ma_nx q.2.2)
def ma_nh (T : Nat → Nat → Int) (V : ma_V) (h : Nat) : Nat → ma_Q → ma_Q
  | 0, q => q
  | p + 1, q => ma_ns T V h p (ma_nh T V h p q)
def ma_nn (T : Nat → Nat → Int) (V : ma_V) (n : Nat) : Nat → ma_Q → ma_Q
  | 0, q => q
  | h + 1, q => ma_nh T V h n (ma_nn T V n h q)
def ma_qw (z : Int) (B : Nat) (q : ma_Q) : Prop := ma_ws q.1 ∧ q.1 48 = z ∧ ∀ j, j < 8 → 0 ≤ q.2.1 j ∧ q.2.1 j ≤ B
theorem ma_wb_48 (w : ma_ws s) (h : Int) (p : Nat) (a : Int) : ma_wb s h p a 48 = s 48 := by
  unfold ma_wb
  rw [ma_bw_o (by omega), ma_b1_o s (by omega)]
theorem ma_ns_w {z : Int} {B : Nat} {q : ma_Q} (hq : ma_qw z B q) {h p : Nat} (hh : h < 9) (hp : p < 8) : ma_qw z (B + 1) (ma_ns T V h p q) := by
  obtain ⟨h1, h2, h3⟩ := hq
  refine ⟨?_, ?_, fun j hj => ?_⟩
  · show ma_ws (if _ then _ else _)
    split
    · exact ma_wb_ws h1 (by omega) hp (by split <;> omega)
    · exact h1
  · show (if _ then _ else _ : Nat → Int) 48 = z
    split
    · rw [ma_wb_48 h1, h2]
    · exact h2
  · show 0 ≤ ma_su q.2.1 p _ j ∧ ma_su q.2.1 p _ j ≤ _
    have b1 := h3 j hj
    by_cases c : j = p
    · subst c
      rw [ma_su_eq]
      split <;> omega
    · rw [ma_su_ne _ _ c]
      omega
theorem ma_nh_w {z : Int} {B : Nat} {q : ma_Q} (hq : ma_qw z B q) {h : Nat} (hh : h < 9) {p : Nat} (hp : p ≤ 8) : ma_qw z (B + p) (ma_nh T V h p q) := by
  induction p with
  | zero => exact hq
  | succ p ih => exact ma_ns_w (ih (by omega)) hh (by omega)
theorem ma_nn_w {z : Int} {q : ma_Q} (hq : ma_qw z 0 q) {n : Nat} (hn : n ≤ 8) {h : Nat} (hh : h ≤ 9) : ma_qw z (8 * h) (ma_nn T V n h q) := by
  induction h with
  | zero => exact hq
  | succ h ih =>
    have h1 := ma_nh_w (T := T) (V := V) (ih (by omega)) (show h < 9 by omega) hn
    obtain ⟨a1, a2, a3⟩ := h1
    exact ⟨a1, a2, fun j hj => by
      have := a3 j hj
      show 0 ≤ (ma_nh T V h n (ma_nn T V n h q)).2.1 j ∧ (ma_nh T V h n (ma_nn T V n h q)).2.1 j ≤ ((8 * (h + 1) : Nat) : Int)
      omega⟩
/-- how class and model hold such a triple -/
def ma_qC (T : Nat → Nat → Int) (V : ma_V) (M : gs_M) (q : ma_Q) (N : gs_M) (L : gs_L) : Prop := ma_C q.1 T V N ∧ (∀ j : Nat, (j : Int) < T 3 0 → N 133 j = iI (q.2.1 j)) ∧ L 132 5 = q.2.2 ∧ iv_hi M N
def ma_qM (T : Nat → Nat → Int) (V : ma_V) (M : gs_M) (q : ma_Q) (N : gs_M) (L : gs_L) : Prop := ma_M q.1 T V N ∧ (∀ j : Nat, (j : Int) < T 3 0 → N 159 j = iI (q.2.1 j)) ∧ L 147 32 = q.2.2 ∧ iv_lo M N
set_option maxHeartbeats 20000000 in
theorem c_nh (wT : ma_wT T) (wV : ma_wV T V) {z : Int} {B : Nat} (hB : B ≤ 100) {h : Nat} (hh : (h : Int) < T 1 0) {q : ma_Q} (hq : ma_qw z B q) {N : gs_M} {L : gs_L} (hC : ma_qC T V M q N L) : ∃ N1 L1, l_X5_pass_36 (iI h) gs_FU (iI 0) N L = some (iI ((T 3 0).toNat : Nat), N1, L1) ∧ ma_qC T V M (ma_nh T V h (T 3 0).toNat q) N1 L1 := by
  obtain ⟨f1, f2, f3, f4, f5, f6, f7, f8, f9, f10, -⟩ := id wT
  have w := id wT
  obtain ⟨r, e, N1, L1, rfl, h1⟩ := ma_up0 (fun f i (k : gs_M × gs_L) => l_X5_pass_36 (iI h) f i k.1 k.2) (T 3 0).toNat
    (fun i k => ma_qC T V M (ma_nh T V h i q) k.1 k.2)
    (fun r => ∃ N1 L1, r = (iI ((T 3 0).toNat : Nat), N1, L1) ∧ ma_qC T V M (ma_nh T V h (T 3 0).toNat q) N1 L1) (N, L) (by omega) hC
    (by
      rintro f i ⟨N, L⟩ hi hC
      left
      have hw := ma_nh_w (T := T) (V := V) hq (show h < 9 by omega) (p := i) (by omega)
      have hw' : ma_nh T V h (i + 1) q = ma_ns T V h i (ma_nh T V h i q) := rfl
      revert hC hw hw'
      generalize ma_nh T V h i q = u
      intro hC hw hw'
      obtain ⟨C, ha, hL, hg⟩ := hC
      obtain ⟨w1, w2, w3⟩ := hw
      simp only at C ha hL hg
      have i8 : i < 8 := by omega
      have W1 : ma_W u.1 T V := ⟨w1, w, wV⟩
      have o := w1.1 i i8
      unfold ma_one at o
      have e0 := c_crowd C
      have e1 := c_draw L (m := 10) (by omega)
      rw [hL] at e1
      have bd := ma_dv_b (ma_nx u.2.2) (m := 10) (by omega)
      obtain ⟨N1, e2, g2⟩ := c_nw W1 C (p := i) (h := h) (by omega) hh
      have bn := ma_now_b u.1 T V i h
      have C1 := C.ag w g2
      have ba := w3 i i8
      have e3 : gs_rd N1 133 8 (iI i) = some (iI (u.2.1 i)) := by
        rw [q_rdn i rfl (by omega) (by decide), g2 133 i rfl, ha i (by omega)]
      have e4 : ∀ v, gs_wr N1 133 8 (iI i) v = some (gs_up N1 133 i v) := fun v => q_wrn i rfl (by omega) (by decide)
      have C2 : ∀ v, ma_C u.1 T V (gs_up N1 133 i v) := fun v => C1.co w (iv_co.rf.up v rfl)
      have e5 := fun v => c_seen w (C2 v) (h := h) (by omega)
      have bs := ma_se_b w (h := h) (by omega)
      have e6 := fun v => c_of5 (C2 v).st i8
      have e7 := fun v => c_of4 (C2 v).st i8
      have hg2 : ∀ v, iv_hi M (gs_up N1 133 i v) := fun v => (hg.tr g2.hi).up v (by decide)
      have ha2 : ∀ v : Int, ∀ j : Nat, (j : Int) < T 3 0 → gs_up N1 133 i (iI v) 133 j = iI (ma_su u.2.1 i v j) := fun v j hj => by
        by_cases c : j = i
        · subst c
          rw [gs_up_eq, ma_su_eq]
        · rw [ma_cell_ne _ _ _ _ _ _ (by omega), ma_su_ne _ _ c, g2 133 j rfl, ha j hj]
      have hL2 : (gs_upl L 132 5 (ma_nx u.2.2)) 132 5 = ma_nx u.2.2 := by simp [gs_upl]
      rw [hw']
      by_cases c1 : ma_dv (ma_nx u.2.2) 10 < ma_now u.1 T V i h
      · by_cases c2 : ma_se T h = i ∧ u.1 (6 * i + 5) = 0
        · obtain ⟨N2, e8, C3, g3⟩ := c_wb W1 (C2 (iI (u.2.1 i + 1))) (h := h) (a := 1) (p := i) (by omega) i8 (by omega)
          refine ⟨(N2, gs_upl L 132 5 (ma_nx u.2.2)), ?_, ?_, ?_, hL2, (hg2 _).tr (fun a b h1 _ => congrFun (g3 a (by omega)) b)⟩
          · simp only [l_X5_pass_36]
            simp (disch := omega) only [qn0, qn1, qn2, qn3, qn4, qn5, qn6, qn7, qn8, qn9, qn10, qn11, qn12, qn13, qn14, qn15, qn16, qn17, qn18, qn24, qn30, qn31, qn32, qn33, qn36, qn38, qn40, qn41, qn42, qn43, qn45, qn47, qn48, qn49, qn50, qn51, qn52, qn53, qn57, qn58, qn59, qn60, qn61, qn62, qn63, qn91, qn93, qn97, qn99, qn100, qn103, qn104, qn112, qn113, qn115, qn116, qn118, qn119, qn121, qn124, qn173, qn177, qn240, qn255, qn295, qn352, qn353, qn533, qn999, qn1000, qn1023, qn6561, qn10000, qn20787, qn1000000, qn252645135, qn858993459, qn1000000000, qn1431655765, q_s1, q_s2, q_s3, q_s4, q_s5, iI_add, iI_sub, iI_mul, iI_neg, q_lt, q_le, q_eq, qz0, qz1, qz2, qz3, if_pos, if_neg, reduceIte, e0, e1, e2, e3, e4, e5, e6, e7, e8]
          · show ma_C (ma_ns T V h i u).1 T V N2
            unfold ma_ns
            simp only
            rw [if_pos c2, if_pos (Or.inl c1)]
            exact C3
          · intro j hj
            show N2 133 j = iI ((ma_ns T V h i u).2.1 j)
            unfold ma_ns
            simp only
            rw [if_pos c1, g3 133 (by decide)]
            exact ha2 _ j hj
        · refine ⟨(gs_up N1 133 i (iI (u.2.1 i + 1)), gs_upl L 132 5 (ma_nx u.2.2)), ?_, ?_, ?_, hL2, hg2 _⟩
          · simp only [l_X5_pass_36]
            rcases (by omega : ma_se T h ≠ i ∨ (ma_se T h = i ∧ u.1 (6 * i + 5) ≠ 0)) with c3 | c3 <;> simp (disch := omega) only [qn0, qn1, qn2, qn3, qn4, qn5, qn6, qn7, qn8, qn9, qn10, qn11, qn12, qn13, qn14, qn15, qn16, qn17, qn18, qn24, qn30, qn31, qn32, qn33, qn36, qn38, qn40, qn41, qn42, qn43, qn45, qn47, qn48, qn49, qn50, qn51, qn52, qn53, qn57, qn58, qn59, qn60, qn61, qn62, qn63, qn91, qn93, qn97, qn99, qn100, qn103, qn104, qn112, qn113, qn115, qn116, qn118, qn119, qn121, qn124, qn173, qn177, qn240, qn255, qn295, qn352, qn353, qn533, qn999, qn1000, qn1023, qn6561, qn10000, qn20787, qn1000000, qn252645135, qn858993459, qn1000000000, qn1431655765, q_s1, q_s2, q_s3, q_s4, q_s5, iI_add, iI_sub, iI_mul, iI_neg, q_lt, q_le, q_eq, qz0, qz1, qz2, qz3, if_pos, if_neg, reduceIte, e0, e1, e2, e3, e4, e5, e6, e7]
          · show ma_C (ma_ns T V h i u).1 T V _
            unfold ma_ns
            simp only
            rw [if_neg c2]
            exact C2 _
          · intro j hj
            show _ = iI ((ma_ns T V h i u).2.1 j)
            unfold ma_ns
            simp only
            rw [if_pos c1]
            exact ha2 _ j hj
      · by_cases c2 : ma_se T h = i ∧ u.1 (6 * i + 5) = 0
        · by_cases c4 : u.1 (6 * i + 4) = 1
          · obtain ⟨N2, e8, C3, g3⟩ := c_wb W1 (C2 (iI (u.2.1 i + 0))) (h := h) (a := 1) (p := i) (by omega) i8 (by omega)
            refine ⟨(N2, gs_upl L 132 5 (ma_nx u.2.2)), ?_, ?_, ?_, hL2, (hg2 _).tr (fun a b h1 _ => congrFun (g3 a (by omega)) b)⟩
            · simp only [l_X5_pass_36]
              simp (disch := omega) only [qn0, qn1, qn2, qn3, qn4, qn5, qn6, qn7, qn8, qn9, qn10, qn11, qn12, qn13, qn14, qn15, qn16, qn17, qn18, qn24, qn30, qn31, qn32, qn33, qn36, qn38, qn40, qn41, qn42, qn43, qn45, qn47, qn48, qn49, qn50, qn51, qn52, qn53, qn57, qn58, qn59, qn60, qn61, qn62, qn63, qn91, qn93, qn97, qn99, qn100, qn103, qn104, qn112, qn113, qn115, qn116, qn118, qn119, qn121, qn124, qn173, qn177, qn240, qn255, qn295, qn352, qn353, qn533, qn999, qn1000, qn1023, qn6561, qn10000, qn20787, qn1000000, qn252645135, qn858993459, qn1000000000, qn1431655765, q_s1, q_s2, q_s3, q_s4, q_s5, iI_add, iI_sub, iI_mul, iI_neg, q_lt, q_le, q_eq, qz0, qz1, qz2, qz3, if_pos, if_neg, reduceIte, e0, e1, e2, e3, e4, e5, e6, e7, e8]
            · show ma_C (ma_ns T V h i u).1 T V N2
              unfold ma_ns
              simp only
              rw [if_pos c2, if_pos (Or.inr c4)]
              exact C3
            · intro j hj
              show N2 133 j = iI ((ma_ns T V h i u).2.1 j)
              unfold ma_ns
              simp only
              rw [if_neg c1, g3 133 (by decide)]
              exact ha2 _ j hj
          · obtain ⟨N2, e8, C3, g3⟩ := c_wb W1 (C2 (iI (u.2.1 i + 0))) (h := h) (a := 0) (p := i) (by omega) i8 (by omega)
            refine ⟨(N2, gs_upl L 132 5 (ma_nx u.2.2)), ?_, ?_, ?_, hL2, (hg2 _).tr (fun a b h1 _ => congrFun (g3 a (by omega)) b)⟩
            · simp only [l_X5_pass_36]
              simp (disch := omega) only [qn0, qn1, qn2, qn3, qn4, qn5, qn6, qn7, qn8, qn9, qn10, qn11, qn12, qn13, qn14, qn15, qn16, qn17, qn18, qn24, qn30, qn31, qn32, qn33, qn36, qn38, qn40, qn41, qn42, qn43, qn45, qn47, qn48, qn49, qn50, qn51, qn52, qn53, qn57, qn58, qn59, qn60, qn61, qn62, qn63, qn91, qn93, qn97, qn99, qn100, qn103, qn104, qn112, qn113, qn115, qn116, qn118, qn119, qn121, qn124, qn173, qn177, qn240, qn255, qn295, qn352, qn353, qn533, qn999, qn1000, qn1023, qn6561, qn10000, qn20787, qn1000000, qn252645135, qn858993459, qn1000000000, qn1431655765, q_s1, q_s2, q_s3, q_s4, q_s5, iI_add, iI_sub, iI_mul, iI_neg, q_lt, q_le, q_eq, qz0, qz1, qz2, qz3, if_pos, if_neg, reduceIte, e0, e1, e2, e3, e4, e5, e6, e7, e8]
            · show ma_C (ma_ns T V h i u).1 T V N2
              unfold ma_ns
              simp only
              rw [if_pos c2, if_neg (by omega)]
              exact C3
            · intro j hj
              show N2 133 j = iI ((ma_ns T V h i u).2.1 j)
              unfold ma_ns
              simp only
              rw [if_neg c1, g3 133 (by decide)]
              exact ha2 _ j hj
        · refine ⟨(gs_up N1 133 i (iI (u.2.1 i + 0)), gs_upl L 132 5 (ma_nx u.2.2)), ?_, ?_, ?_, hL2, hg2 _⟩
          · simp only [l_X5_pass_36]
            rcases (by omega : ma_se T h ≠ i ∨ (ma_se T h = i ∧ u.1 (6 * i + 5) ≠ 0)) with c3 | c3 <;> simp (disch := omega) only [qn0, qn1, qn2, qn3, qn4, qn5, qn6, qn7, qn8, qn9, qn10, qn11, qn12, qn13, qn14, qn15, qn16, qn17, qn18, qn24, qn30, qn31, qn32, qn33, qn36, qn38, qn40, qn41, qn42, qn43, qn45, qn47, qn48, qn49, qn50, qn51, qn52, qn53, qn57, qn58, qn59, qn60, qn61, qn62, qn63, qn91, qn93, qn97, qn99, qn100, qn103, qn104, qn112, qn113, qn115, qn116, qn118, qn119, qn121, qn124, qn173, qn177, qn240, qn255, qn295, qn352, qn353, qn533, qn999, qn1000, qn1023, qn6561, qn10000, qn20787, qn1000000, qn252645135, qn858993459, qn1000000000, qn1431655765, q_s1, q_s2, q_s3, q_s4, q_s5, iI_add, iI_sub, iI_mul, iI_neg, q_lt, q_le, q_eq, qz0, qz1, qz2, qz3, if_pos, if_neg, reduceIte, e0, e1, e2, e3, e4, e5, e6, e7]
          · show ma_C (ma_ns T V h i u).1 T V _
            unfold ma_ns
            simp only
            rw [if_neg c2]
            exact C2 _
          · intro j hj
            show _ = iI ((ma_ns T V h i u).2.1 j)
            unfold ma_ns
            simp only
            rw [if_neg c1]
            exact ha2 _ j hj)
    (by
      rintro f ⟨N, L⟩ hC
      simp only at hC
      have e0 := c_crowd hC.1
      refine ⟨_, ?_, N, L, rfl, hC⟩
      simp only [l_X5_pass_36]
      simp (disch := omega) only [qn0, qn1, qn2, qn3, qn4, qn5, qn6, qn7, qn8, qn9, qn10, qn11, qn12, qn13, qn14, qn15, qn16, qn17, qn18, qn24, qn30, qn31, qn32, qn33, qn36, qn38, qn40, qn41, qn42, qn43, qn45, qn47, qn48, qn49, qn50, qn51, qn52, qn53, qn57, qn58, qn59, qn60, qn61, qn62, qn63, qn91, qn93, qn97, qn99, qn100, qn103, qn104, qn112, qn113, qn115, qn116, qn118, qn119, qn121, qn124, qn173, qn177, qn240, qn255, qn295, qn352, qn353, qn533, qn999, qn1000, qn1023, qn6561, qn10000, qn20787, qn1000000, qn252645135, qn858993459, qn1000000000, qn1431655765, q_s1, q_s2, q_s3, q_s4, q_s5, iI_add, iI_sub, iI_mul, iI_neg, q_lt, q_le, q_eq, qz0, qz1, qz2, qz3, if_pos, if_neg, reduceIte, e0])
  exact ⟨N1, L1, e, h1⟩
set_option maxHeartbeats 20000000 in
theorem m_nh (wT : ma_wT T) (wV : ma_wV T V) {z : Int} {B : Nat} (hB : B ≤ 100) {h : Nat} (hh : (h : Int) < T 1 0) {q : ma_Q} (hq : ma_qw z B q) {N : gs_M} {L : gs_L} (hC : ma_qM T V M q N L) : ∃ N1 L1, l_X12_goNight_47 (iI h) (iI (ma_se T h)) gs_FU (iI 0) N L = some (iI ((T 3 0).toNat : Nat), N1, L1) ∧ ma_qM T V M (ma_nh T V h (T 3 0).toNat q) N1 L1 := by
  obtain ⟨f1, f2, f3, f4, f5, f6, f7, f8, f9, f10, -⟩ := id wT
  have w := id wT
  obtain ⟨r, e, N1, L1, rfl, h1⟩ := ma_up0 (fun f i (k : gs_M × gs_L) => l_X12_goNight_47 (iI h) (iI (ma_se T h)) f i k.1 k.2) (T 3 0).toNat
    (fun i k => ma_qM T V M (ma_nh T V h i q) k.1 k.2)
    (fun r => ∃ N1 L1, r = (iI ((T 3 0).toNat : Nat), N1, L1) ∧ ma_qM T V M (ma_nh T V h (T 3 0).toNat q) N1 L1) (N, L) (by omega) hC
    (by
      rintro f i ⟨N, L⟩ hi hC
      left
      have hw := ma_nh_w (T := T) (V := V) hq (show h < 9 by omega) (p := i) (by omega)
      have hw' : ma_nh T V h (i + 1) q = ma_ns T V h i (ma_nh T V h i q) := rfl
      revert hC hw hw'
      generalize ma_nh T V h i q = u
      intro hC hw hw'
      obtain ⟨C, ha, hL, hg⟩ := hC
      obtain ⟨w1, w2, w3⟩ := hw
      simp only at C ha hL hg
      have i8 : i < 8 := by omega
      have W1 : ma_W u.1 T V := ⟨w1, w, wV⟩
      have o := w1.1 i i8
      unfold ma_one at o
      have e0 := C.fo
      have e1 := m_draw L (m := 10) (by omega)
      rw [hL] at e1
      have bd := ma_dv_b (ma_nx u.2.2) (m := 10) (by omega)
      obtain ⟨N1, e2, g2⟩ := m_nw W1 C (p := i) (h := h) (by omega) hh
      have bn := ma_now_b u.1 T V i h
      have C1 := C.ag w g2
      have ba := w3 i i8
      have e3 : gs_rd N1 159 8 (iI i) = some (iI (u.2.1 i)) := by
        rw [q_rdn i rfl (by omega) (by decide), g2 159 i rfl, ha i (by omega)]
      have e4 : ∀ v, gs_wr N1 159 8 (iI i) v = some (gs_up N1 159 i v) := fun v => q_wrn i rfl (by omega) (by decide)
      have C2 : ∀ v, ma_M u.1 T V (gs_up N1 159 i v) := fun v => C1.co w (iv_co.rf.up v rfl)
      have bs := ma_se_b w (h := h) (by omega)
      have e6 := fun v => m_of5 (C2 v).st i8
      have e7 := fun v => m_of4 (C2 v).st i8
      have hg2 : ∀ v, iv_lo M (gs_up N1 159 i v) := fun v => (hg.tr g2.lo).up v (by decide)
      have ha2 : ∀ v : Int, ∀ j : Nat, (j : Int) < T 3 0 → gs_up N1 159 i (iI v) 159 j = iI (ma_su u.2.1 i v j) := fun v j hj => by
        by_cases c : j = i
        · subst c
          rw [gs_up_eq, ma_su_eq]
        · rw [ma_cell_ne _ _ _ _ _ _ (by omega), ma_su_ne _ _ c, g2 159 j rfl, ha j hj]
      have hL2 : (gs_upl L 147 32 (ma_nx u.2.2)) 147 32 = ma_nx u.2.2 := by simp [gs_upl]
      rw [hw']
      by_cases c1 : ma_dv (ma_nx u.2.2) 10 < ma_now u.1 T V i h
      · by_cases c2 : ma_se T h = i ∧ u.1 (6 * i + 5) = 0
        · obtain ⟨N2, e8, C3, g3⟩ := m_wb W1 (C2 (iI (u.2.1 i + 1))) (h := h) (a := 1) (p := i) i8
          refine ⟨(N2, gs_upl L 147 32 (ma_nx u.2.2)), ?_, ?_, ?_, hL2, (hg2 _).tr (fun a b h1 _ => congrFun (g3 a (by omega)) b)⟩
          · simp only [l_X12_goNight_47]
            simp (disch := omega) only [qn0, qn1, qn2, qn3, qn4, qn5, qn6, qn7, qn8, qn9, qn10, qn11, qn12, qn13, qn14, qn15, qn16, qn17, qn18, qn24, qn30, qn31, qn32, qn33, qn36, qn38, qn40, qn41, qn42, qn43, qn45, qn47, qn48, qn49, qn50, qn51, qn52, qn53, qn57, qn58, qn59, qn60, qn61, qn62, qn63, qn91, qn93, qn97, qn99, qn100, qn103, qn104, qn112, qn113, qn115, qn116, qn118, qn119, qn121, qn124, qn173, qn177, qn240, qn255, qn295, qn352, qn353, qn533, qn999, qn1000, qn1023, qn6561, qn10000, qn20787, qn1000000, qn252645135, qn858993459, qn1000000000, qn1431655765, q_s1, q_s2, q_s3, q_s4, q_s5, iI_add, iI_sub, iI_mul, iI_neg, q_lt, q_le, q_eq, qz0, qz1, qz2, qz3, if_pos, if_neg, reduceIte, e0, e1, e2, e3, e4, e6, e7, e8]
          · show ma_M (ma_ns T V h i u).1 T V N2
            unfold ma_ns
            simp only
            rw [if_pos c2, if_pos (Or.inl c1)]
            exact C3
          · intro j hj
            show N2 159 j = iI ((ma_ns T V h i u).2.1 j)
            unfold ma_ns
            simp only
            rw [if_pos c1, g3 159 (by decide)]
            exact ha2 _ j hj
        · refine ⟨(gs_up N1 159 i (iI (u.2.1 i + 1)), gs_upl L 147 32 (ma_nx u.2.2)), ?_, ?_, ?_, hL2, hg2 _⟩
          · simp only [l_X12_goNight_47]
            rcases (by omega : ma_se T h ≠ i ∨ (ma_se T h = i ∧ u.1 (6 * i + 5) ≠ 0)) with c3 | c3 <;> simp (disch := omega) only [qn0, qn1, qn2, qn3, qn4, qn5, qn6, qn7, qn8, qn9, qn10, qn11, qn12, qn13, qn14, qn15, qn16, qn17, qn18, qn24, qn30, qn31, qn32, qn33, qn36, qn38, qn40, qn41, qn42, qn43, qn45, qn47, qn48, qn49, qn50, qn51, qn52, qn53, qn57, qn58, qn59, qn60, qn61, qn62, qn63, qn91, qn93, qn97, qn99, qn100, qn103, qn104, qn112, qn113, qn115, qn116, qn118, qn119, qn121, qn124, qn173, qn177, qn240, qn255, qn295, qn352, qn353, qn533, qn999, qn1000, qn1023, qn6561, qn10000, qn20787, qn1000000, qn252645135, qn858993459, qn1000000000, qn1431655765, q_s1, q_s2, q_s3, q_s4, q_s5, iI_add, iI_sub, iI_mul, iI_neg, q_lt, q_le, q_eq, qz0, qz1, qz2, qz3, if_pos, if_neg, reduceIte, e0, e1, e2, e3, e4, e6, e7]
          · show ma_M (ma_ns T V h i u).1 T V _
            unfold ma_ns
            simp only
            rw [if_neg c2]
            exact C2 _
          · intro j hj
            show _ = iI ((ma_ns T V h i u).2.1 j)
            unfold ma_ns
            simp only
            rw [if_pos c1]
            exact ha2 _ j hj
      · by_cases c2 : ma_se T h = i ∧ u.1 (6 * i + 5) = 0
        · by_cases c4 : u.1 (6 * i + 4) = 1
          · obtain ⟨N2, e8, C3, g3⟩ := m_wb W1 (C2 (iI (u.2.1 i + 0))) (h := h) (a := 1) (p := i) i8
            refine ⟨(N2, gs_upl L 147 32 (ma_nx u.2.2)), ?_, ?_, ?_, hL2, (hg2 _).tr (fun a b h1 _ => congrFun (g3 a (by omega)) b)⟩
            · simp only [l_X12_goNight_47]
              simp (disch := omega) only [qn0, qn1, qn2, qn3, qn4, qn5, qn6, qn7, qn8, qn9, qn10, qn11, qn12, qn13, qn14, qn15, qn16, qn17, qn18, qn24, qn30, qn31, qn32, qn33, qn36, qn38, qn40, qn41, qn42, qn43, qn45, qn47, qn48, qn49, qn50, qn51, qn52, qn53, qn57, qn58, qn59, qn60, qn61, qn62, qn63, qn91, qn93, qn97, qn99, qn100, qn103, qn104, qn112, qn113, qn115, qn116, qn118, qn119, qn121, qn124, qn173, qn177, qn240, qn255, qn295, qn352, qn353, qn533, qn999, qn1000, qn1023, qn6561, qn10000, qn20787, qn1000000, qn252645135, qn858993459, qn1000000000, qn1431655765, q_s1, q_s2, q_s3, q_s4, q_s5, iI_add, iI_sub, iI_mul, iI_neg, q_lt, q_le, q_eq, qz0, qz1, qz2, qz3, if_pos, if_neg, reduceIte, e0, e1, e2, e3, e4, e6, e7, e8]
            · show ma_M (ma_ns T V h i u).1 T V N2
              unfold ma_ns
              simp only
              rw [if_pos c2, if_pos (Or.inr c4)]
              exact C3
            · intro j hj
              show N2 159 j = iI ((ma_ns T V h i u).2.1 j)
              unfold ma_ns
              simp only
              rw [if_neg c1, g3 159 (by decide)]
              exact ha2 _ j hj
          · obtain ⟨N2, e8, C3, g3⟩ := m_wb W1 (C2 (iI (u.2.1 i + 0))) (h := h) (a := 0) (p := i) i8
            refine ⟨(N2, gs_upl L 147 32 (ma_nx u.2.2)), ?_, ?_, ?_, hL2, (hg2 _).tr (fun a b h1 _ => congrFun (g3 a (by omega)) b)⟩
            · simp only [l_X12_goNight_47]
              simp (disch := omega) only [qn0, qn1, qn2, qn3, qn4, qn5, qn6, qn7, qn8, qn9, qn10, qn11, qn12, qn13, qn14, qn15, qn16, qn17, qn18, qn24, qn30, qn31, qn32, qn33, qn36, qn38, qn40, qn41, qn42, qn43, qn45, qn47, qn48, qn49, qn50, qn51, qn52, qn53, qn57, qn58, qn59, qn60, qn61, qn62, qn63, qn91, qn93, qn97, qn99, qn100, qn103, qn104, qn112, qn113, qn115, qn116, qn118, qn119, qn121, qn124, qn173, qn177, qn240, qn255, qn295, qn352, qn353, qn533, qn999, qn1000, qn1023, qn6561, qn10000, qn20787, qn1000000, qn252645135, qn858993459, qn1000000000, qn1431655765, q_s1, q_s2, q_s3, q_s4, q_s5, iI_add, iI_sub, iI_mul, iI_neg, q_lt, q_le, q_eq, qz0, qz1, qz2, qz3, if_pos, if_neg, reduceIte, e0, e1, e2, e3, e4, e6, e7, e8]
            · show ma_M (ma_ns T V h i u).1 T V N2
              unfold ma_ns
              simp only
              rw [if_pos c2, if_neg (by omega)]
              exact C3
            · intro j hj
              show N2 159 j = iI ((ma_ns T V h i u).2.1 j)
              unfold ma_ns
              simp only
              rw [if_neg c1, g3 159 (by decide)]
              exact ha2 _ j hj
        · refine ⟨(gs_up N1 159 i (iI (u.2.1 i + 0)), gs_upl L 147 32 (ma_nx u.2.2)), ?_, ?_, ?_, hL2, hg2 _⟩
          · simp only [l_X12_goNight_47]
            rcases (by omega : ma_se T h ≠ i ∨ (ma_se T h = i ∧ u.1 (6 * i + 5) ≠ 0)) with c3 | c3 <;> simp (disch := omega) only [qn0, qn1, qn2, qn3, qn4, qn5, qn6, qn7, qn8, qn9, qn10, qn11, qn12, qn13, qn14, qn15, qn16, qn17, qn18, qn24, qn30, qn31, qn32, qn33, qn36, qn38, qn40, qn41, qn42, qn43, qn45, qn47, qn48, qn49, qn50, qn51, qn52, qn53, qn57, qn58, qn59, qn60, qn61, qn62, qn63, qn91, qn93, qn97, qn99, qn100, qn103, qn104, qn112, qn113, qn115, qn116, qn118, qn119, qn121, qn124, qn173, qn177, qn240, qn255, qn295, qn352, qn353, qn533, qn999, qn1000, qn1023, qn6561, qn10000, qn20787, qn1000000, qn252645135, qn858993459, qn1000000000, qn1431655765, q_s1, q_s2, q_s3, q_s4, q_s5, iI_add, iI_sub, iI_mul, iI_neg, q_lt, q_le, q_eq, qz0, qz1, qz2, qz3, if_pos, if_neg, reduceIte, e0, e1, e2, e3, e4, e6, e7]
          · show ma_M (ma_ns T V h i u).1 T V _
            unfold ma_ns
            simp only
            rw [if_neg c2]
            exact C2 _
          · intro j hj
            show _ = iI ((ma_ns T V h i u).2.1 j)
            unfold ma_ns
            simp only
            rw [if_neg c1]
            exact ha2 _ j hj)
    (by
      rintro f ⟨N, L⟩ hC
      simp only at hC
      have e0 := hC.1.fo
      refine ⟨_, ?_, N, L, rfl, hC⟩
      simp only [l_X12_goNight_47]
      simp (disch := omega) only [qn0, qn1, qn2, qn3, qn4, qn5, qn6, qn7, qn8, qn9, qn10, qn11, qn12, qn13, qn14, qn15, qn16, qn17, qn18, qn24, qn30, qn31, qn32, qn33, qn36, qn38, qn40, qn41, qn42, qn43, qn45, qn47, qn48, qn49, qn50, qn51, qn52, qn53, qn57, qn58, qn59, qn60, qn61, qn62, qn63, qn91, qn93, qn97, qn99, qn100, qn103, qn104, qn112, qn113, qn115, qn116, qn118, qn119, qn121, qn124, qn173, qn177, qn240, qn255, qn295, qn352, qn353, qn533, qn999, qn1000, qn1023, qn6561, qn10000, qn20787, qn1000000, qn252645135, qn858993459, qn1000000000, qn1431655765, q_s1, q_s2, q_s3, q_s4, q_s5, iI_add, iI_sub, iI_mul, iI_neg, q_lt, q_le, q_eq, qz0, qz1, qz2, qz3, if_pos, if_neg, reduceIte, e0])
  exact ⟨N1, L1, e, h1⟩

theorem c_nn (wT : ma_wT T) (wV : ma_wV T V) {z : Int} {q : ma_Q} (hq : ma_qw z 0 q) {N : gs_M} {L : gs_L} (hC : ma_qC T V M q N L) : ∃ N1 L1, l_X5_pass_23 gs_FU (iI 0) N L = some (iI ((T 1 0).toNat : Nat), N1, L1) ∧ ma_qC T V M (ma_nn T V (T 3 0).toNat (T 1 0).toNat q) N1 L1 := by
  obtain ⟨f1, f2, f3, f4, f5, f6, f7, f8, f9, f10, -⟩ := id wT
  obtain ⟨r, e, N1, L1, rfl, h1⟩ := ma_up0 (fun f i (k : gs_M × gs_L) => l_X5_pass_23 f i k.1 k.2) (T 1 0).toNat
    (fun i k => ma_qC T V M (ma_nn T V (T 3 0).toNat i q) k.1 k.2)
    (fun r => ∃ N1 L1, r = (iI ((T 1 0).toNat : Nat), N1, L1) ∧ ma_qC T V M (ma_nn T V (T 3 0).toNat (T 1 0).toNat q) N1 L1) (N, L) (by omega) hC
    (by
      rintro f i ⟨N, L⟩ hi hC
      simp only at hC
      left
      have hw := ma_nn_w (T := T) (V := V) hq (n := (T 3 0).toNat) (by omega) (h := i) (by omega)
      obtain ⟨N1, L1, e1, h1⟩ := c_nh wT wV (by omega) (h := i) (by omega) hw hC
      have e0 := c_hours hC.1
      refine ⟨(N1, L1), ?_, h1⟩
      simp only [l_X5_pass_23]
      simp (disch := omega) only [qn0, qn1, qn2, qn3, qn4, qn5, qn6, qn7, qn8, qn9, qn10, qn11, qn12, qn13, qn14, qn15, qn16, qn17, qn18, qn24, qn30, qn31, qn32, qn33, qn36, qn38, qn40, qn41, qn42, qn43, qn45, qn47, qn48, qn49, qn50, qn51, qn52, qn53, qn57, qn58, qn59, qn60, qn61, qn62, qn63, qn91, qn93, qn97, qn99, qn100, qn103, qn104, qn112, qn113, qn115, qn116, qn118, qn119, qn121, qn124, qn173, qn177, qn240, qn255, qn295, qn352, qn353, qn533, qn999, qn1000, qn1023, qn6561, qn10000, qn20787, qn1000000, qn252645135, qn858993459, qn1000000000, qn1431655765, q_s1, q_s2, q_s3, q_s4, q_s5, iI_add, iI_sub, iI_mul, iI_neg, q_lt, q_le, q_eq, qz0, qz1, qz2, qz3, if_pos, if_neg, reduceIte, e0, e1])
    (by
      rintro f ⟨N, L⟩ hC
      simp only at hC
      have e0 := c_hours hC.1
      refine ⟨_, ?_, N, L, rfl, hC⟩
      simp only [l_X5_pass_23]
      simp (disch := omega) only [qn0, qn1, qn2, qn3, qn4, qn5, qn6, qn7, qn8, qn9, qn10, qn11, qn12, qn13, qn14, qn15, qn16, qn17, qn18, qn24, qn30, qn31, qn32, qn33, qn36, qn38, qn40, qn41, qn42, qn43, qn45, qn47, qn48, qn49, qn50, qn51, qn52, qn53, qn57, qn58, qn59, qn60, qn61, qn62, qn63, qn91, qn93, qn97, qn99, qn100, qn103, qn104, qn112, qn113, qn115, qn116, qn118, qn119, qn121, qn124, qn173, qn177, qn240, qn255, qn295, qn352, qn353, qn533, qn999, qn1000, qn1023, qn6561, qn10000, qn20787, qn1000000, qn252645135, qn858993459, qn1000000000, qn1431655765, q_s1, q_s2, q_s3, q_s4, q_s5, iI_add, iI_sub, iI_mul, iI_neg, q_lt, q_le, q_eq, qz0, qz1, qz2, qz3, if_pos, if_neg, reduceIte, e0])
  exact ⟨N1, L1, e, h1⟩
theorem m_nn (wT : ma_wT T) (wV : ma_wV T V) {z : Int} {q : ma_Q} (hq : ma_qw z 0 q) {N : gs_M} {L : gs_L} (hC : ma_qM T V M q N L) : ∃ N1 L1, l_X12_goNight_25 gs_FU (iI 0) N L = some (iI ((T 1 0).toNat : Nat), N1, L1) ∧ ma_qM T V M (ma_nn T V (T 3 0).toNat (T 1 0).toNat q) N1 L1 := by
  obtain ⟨f1, f2, f3, f4, f5, f6, f7, f8, f9, f10, -⟩ := id wT
  obtain ⟨r, e, N1, L1, rfl, h1⟩ := ma_up0 (fun f i (k : gs_M × gs_L) => l_X12_goNight_25 f i k.1 k.2) (T 1 0).toNat
    (fun i k => ma_qM T V M (ma_nn T V (T 3 0).toNat i q) k.1 k.2)
    (fun r => ∃ N1 L1, r = (iI ((T 1 0).toNat : Nat), N1, L1) ∧ ma_qM T V M (ma_nn T V (T 3 0).toNat (T 1 0).toNat q) N1 L1) (N, L) (by omega) hC
    (by
      rintro f i ⟨N, L⟩ hi hC
      simp only at hC
      left
      have hw := ma_nn_w (T := T) (V := V) hq (n := (T 3 0).toNat) (by omega) (h := i) (by omega)
      obtain ⟨N1, L1, e1, h1⟩ := m_nh wT wV (by omega) (h := i) (by omega) hw hC
      have e0 := m_rule0 hC.1
      have e2 := m_seen wT hC.1 (h := i) (by omega)
      refine ⟨(N1, L1), ?_, h1⟩
      simp only [l_X12_goNight_25]
      simp (disch := omega) only [qn0, qn1, qn2, qn3, qn4, qn5, qn6, qn7, qn8, qn9, qn10, qn11, qn12, qn13, qn14, qn15, qn16, qn17, qn18, qn24, qn30, qn31, qn32, qn33, qn36, qn38, qn40, qn41, qn42, qn43, qn45, qn47, qn48, qn49, qn50, qn51, qn52, qn53, qn57, qn58, qn59, qn60, qn61, qn62, qn63, qn91, qn93, qn97, qn99, qn100, qn103, qn104, qn112, qn113, qn115, qn116, qn118, qn119, qn121, qn124, qn173, qn177, qn240, qn255, qn295, qn352, qn353, qn533, qn999, qn1000, qn1023, qn6561, qn10000, qn20787, qn1000000, qn252645135, qn858993459, qn1000000000, qn1431655765, q_s1, q_s2, q_s3, q_s4, q_s5, iI_add, iI_sub, iI_mul, iI_neg, q_lt, q_le, q_eq, qz0, qz1, qz2, qz3, if_pos, if_neg, reduceIte, e0, e2, e1])
    (by
      rintro f ⟨N, L⟩ hC
      simp only at hC
      have e0 := m_rule0 hC.1
      refine ⟨_, ?_, N, L, rfl, hC⟩
      simp only [l_X12_goNight_25]
      simp (disch := omega) only [qn0, qn1, qn2, qn3, qn4, qn5, qn6, qn7, qn8, qn9, qn10, qn11, qn12, qn13, qn14, qn15, qn16, qn17, qn18, qn24, qn30, qn31, qn32, qn33, qn36, qn38, qn40, qn41, qn42, qn43, qn45, qn47, qn48, qn49, qn50, qn51, qn52, qn53, qn57, qn58, qn59, qn60, qn61, qn62, qn63, qn91, qn93, qn97, qn99, qn100, qn103, qn104, qn112, qn113, qn115, qn116, qn118, qn119, qn121, qn124, qn173, qn177, qn240, qn255, qn295, qn352, qn353, qn533, qn999, qn1000, qn1023, qn6561, qn10000, qn20787, qn1000000, qn252645135, qn858993459, qn1000000000, qn1431655765, q_s1, q_s2, q_s3, q_s4, q_s5, iI_add, iI_sub, iI_mul, iI_neg, q_lt, q_le, q_eq, qz0, qz1, qz2, qz3, if_pos, if_neg, reduceIte, e0])
  exact ⟨N1, L1, e, h1⟩
/-- the morning -/
def ma_fi (a : Nat → Int) : Nat → (Nat → Int) → Nat → Int
  | 0, s => s
  | p + 1, s => ma_su (ma_su (ma_su (ma_fi a p s) (6 * p + 2) (if 9 < a p then 9 else a p)) (6 * p + 3) 0) (6 * p + 4) 0
theorem ma_fi_ws (w : ma_ws s) {a : Nat → Int} (ha : ∀ j, j < 8 → 0 ≤ a j) {p : Nat} (hp : p ≤ 8) : ma_ws (ma_fi a p s) ∧ ma_fi a p s 48 = s 48 := by
  induction p with
  | zero => exact ⟨w, rfl⟩
  | succ p ih =>
    obtain ⟨h1, h2⟩ := ih (by omega)
    have b := ha p (by omega)
    refine ⟨((h1.su (p := p) (k := 2) (by omega) (by decide) ?_).su (p := p) (k := 3) (by omega) (by decide) ?_).su (p := p) (k := 4) (by omega) (by decide) ?_, ?_⟩
    · have : ma_rg 2 = 9 := rfl
      split <;> omega
    · exact ⟨by decide, by decide⟩
    · exact ⟨by decide, by decide⟩
    · simp only [ma_fi]
      rw [ma_su_ne _ _ (by omega), ma_su_ne _ _ (by omega), ma_su_ne _ _ (by omega), h2]
def ma_ng (s : Nat → Int) (T : Nat → Nat → Int) (V : ma_V) (x : Int64) : (Nat → Int) × Int64 :=
  (ma_su (ma_fi (ma_nn T V (T 3 0).toNat (T 1 0).toNat (s, (fun _ => 0), x)).2.1 (T 3 0).toNat (ma_nn T V (T 3 0).toNat (T 1 0).toNat (s, (fun _ => 0), x)).1) 48 (s 48 + 1), (ma_nn T V (T 3 0).toNat (T 1 0).toNat (s, (fun _ => 0), x)).2.2)
theorem ma_w48 (w : ma_ws s) {v : Int} (hv : 0 ≤ v ∧ v ≤ 999) : ma_ws (ma_su s 48 v) := by
  obtain ⟨h1, h2, h3, h4, h5, h6⟩ := w
  refine ⟨fun q hq => ?_, ?_, ?_, ?_, fun i hi => ?_, fun i hi => ?_⟩
  · rw [ma_one_i]
    intro j hj
    rw [ma_su_ne _ _ (by omega)]
    exact ma_one_i.1 (h1 q hq) j hj
  · rw [ma_su_eq]; exact hv
  · rw [ma_su_ne _ _ (by omega)]; exact h3
  · rw [ma_su_ne _ _ (by omega)]; exact h4
  · rw [ma_su_ne _ _ (by omega)] at hi
    unfold ma_pg
    rw [ma_su_ne _ _ (by omega), ma_su_ne _ _ (by omega), ma_su_ne _ _ (by omega), ma_su_ne _ _ (by omega), ma_su_ne _ _ (by omega)]
    exact h5 i hi
  · rw [ma_su_ne _ _ (by omega)] at hi
    unfold ma_lr
    rw [ma_su_ne _ _ (by omega), ma_su_ne _ _ (by omega), ma_su_ne _ _ (by omega)]
    exact h6 i hi
theorem ma_ng_0 (W : ma_W s T V) (x : Int64) : ma_qw (s 48) 72 (ma_nn T V (T 3 0).toNat (T 1 0).toNat (s, (fun _ => 0), x)) := by
  have f1 := W.2.1.1
  have f2 := W.2.1.2.1
  have h := ma_nn_w (T := T) (V := V) (z := s 48) (q := (s, (fun _ => 0), x)) ⟨W.1, rfl, fun _ _ => by simp⟩ (n := (T 3 0).toNat) (by omega) (h := (T 1 0).toNat) (by omega)
  obtain ⟨h1, h2, h3⟩ := h
  exact ⟨h1, h2, fun j hj => by have := h3 j hj; omega⟩
theorem ma_ng_ws (W : ma_W s T V) (x : Int64) (h48 : s 48 < 999) : ma_ws (ma_ng s T V x).1 ∧ (ma_ng s T V x).1 48 = s 48 + 1 := by
  have f1 := W.2.1.1
  have w2 := W.1.2.1
  obtain ⟨h1, h2, h3⟩ := ma_ng_0 W x
  refine ⟨ma_w48 (ma_fi_ws h1 (fun j hj => (h3 j hj).1) (by omega)).1 (by omega), by unfold ma_ng; simp only; rw [ma_su_eq]⟩
theorem c_fi (w : ma_wT T) {u : Nat → Int} (L : gs_L) {a : Nat → Int} (ha : ∀ j, j < 8 → 0 ≤ a j ∧ a j ≤ 72) {N : gs_M} (C : ma_C u T V N) (hr : ∀ j : Nat, (j : Int) < T 3 0 → N 133 j = iI (a j)) : ∃ N1, l_X5_pass_157 L gs_FU (iI 0) N = some (iI ((T 3 0).toNat : Nat), N1) ∧ ma_C (ma_fi a (T 3 0).toNat u) T V N1 ∧ ∀ r, r ≠ 10 → N1 r = N r := by
  have f1 := w.1
  obtain ⟨r, e, N1, rfl, h1, h2⟩ := ma_up0 (fun f i (k : gs_M) => l_X5_pass_157 L f i k) (T 3 0).toNat
    (fun i k => ma_C (ma_fi a i u) T V k ∧ ∀ r, r ≠ 10 → k r = N r)
    (fun r => ∃ N1, r = (iI ((T 3 0).toNat : Nat), N1) ∧ ma_C (ma_fi a (T 3 0).toNat u) T V N1 ∧ ∀ r, r ≠ 10 → N1 r = N r) N (by omega) ⟨C, fun _ _ => rfl⟩
    (by
      rintro f i k hi ⟨hC, hg⟩
      left
      have i8 : i < 8 := by omega
      have b := ha i i8
      have e0 := c_crowd hC
      have e1 : gs_rd k 133 8 (iI i) = some (iI (a i)) := by
        rw [q_rdn i rfl (by omega) (by decide), hg 133 (by decide), hr i (by omega)]
      have x2 : ∀ (K : gs_M) x, f_X6_set K (iI i) (iI 2) x = some (gs_up K 10 (6 * i + 2) x) := fun K x => c_set (k := 2) i8 (by decide) x
      have x3 : ∀ (K : gs_M) x, f_X6_set K (iI i) (iI 3) x = some (gs_up K 10 (6 * i + 3) x) := fun K x => c_set (k := 3) i8 (by decide) x
      have x4 : ∀ (K : gs_M) x, f_X6_set K (iI i) (iI 4) x = some (gs_up K 10 (6 * i + 4) x) := fun K x => c_set (k := 4) i8 (by decide) x
      have C1 := ((hC.su w (k := 6 * i + 2) (by omega) (if 9 < a i then 9 else a i)).su w (k := 6 * i + 3) (by omega) 0).su w (k := 6 * i + 4) (by omega) 0
      refine ⟨gs_up (gs_up (gs_up k 10 (6 * i + 2) (iI (if 9 < a i then 9 else a i))) 10 (6 * i + 3) (iI 0)) 10 (6 * i + 4) (iI 0), ?_, C1, fun r hr => by rw [ma_row_ne _ _ _ _ _ hr, ma_row_ne _ _ _ _ _ hr, ma_row_ne _ _ _ _ _ hr, hg r hr]⟩
      simp only [l_X5_pass_157]
      by_cases c : 9 < a i
      · rw [if_pos c]
        simp (disch := omega) only [qn0, qn1, qn2, qn3, qn4, qn5, qn6, qn7, qn8, qn9, qn10, qn11, qn12, qn13, qn14, qn15, qn16, qn17, qn18, qn24, qn30, qn31, qn32, qn33, qn36, qn38, qn40, qn41, qn42, qn43, qn45, qn47, qn48, qn49, qn50, qn51, qn52, qn53, qn57, qn58, qn59, qn60, qn61, qn62, qn63, qn91, qn93, qn97, qn99, qn100, qn103, qn104, qn112, qn113, qn115, qn116, qn118, qn119, qn121, qn124, qn173, qn177, qn240, qn255, qn295, qn352, qn353, qn533, qn999, qn1000, qn1023, qn6561, qn10000, qn20787, qn1000000, qn252645135, qn858993459, qn1000000000, qn1431655765, q_s1, q_s2, q_s3, q_s4, q_s5, iI_add, iI_sub, iI_mul, iI_neg, q_lt, q_le, q_eq, qz0, qz1, qz2, qz3, if_pos, if_neg, reduceIte, e0, e1, x2, x3, x4]
      · rw [if_neg c]
        simp (disch := omega) only [qn0, qn1, qn2, qn3, qn4, qn5, qn6, qn7, qn8, qn9, qn10, qn11, qn12, qn13, qn14, qn15, qn16, qn17, qn18, qn24, qn30, qn31, qn32, qn33, qn36, qn38, qn40, qn41, qn42, qn43, qn45, qn47, qn48, qn49, qn50, qn51, qn52, qn53, qn57, qn58, qn59, qn60, qn61, qn62, qn63, qn91, qn93, qn97, qn99, qn100, qn103, qn104, qn112, qn113, qn115, qn116, qn118, qn119, qn121, qn124, qn173, qn177, qn240, qn255, qn295, qn352, qn353, qn533, qn999, qn1000, qn1023, qn6561, qn10000, qn20787, qn1000000, qn252645135, qn858993459, qn1000000000, qn1431655765, q_s1, q_s2, q_s3, q_s4, q_s5, iI_add, iI_sub, iI_mul, iI_neg, q_lt, q_le, q_eq, qz0, qz1, qz2, qz3, if_pos, if_neg, reduceIte, e0, e1, x2, x3, x4])
    (by
      rintro f k ⟨hC, hg⟩
      have e0 := c_crowd hC
      refine ⟨_, ?_, k, rfl, hC, hg⟩
      simp only [l_X5_pass_157]
      simp (disch := omega) only [qn0, qn1, qn2, qn3, qn4, qn5, qn6, qn7, qn8, qn9, qn10, qn11, qn12, qn13, qn14, qn15, qn16, qn17, qn18, qn24, qn30, qn31, qn32, qn33, qn36, qn38, qn40, qn41, qn42, qn43, qn45, qn47, qn48, qn49, qn50, qn51, qn52, qn53, qn57, qn58, qn59, qn60, qn61, qn62, qn63, qn91, qn93, qn97, qn99, qn100, qn103, qn104, qn112, qn113, qn115, qn116, qn118, qn119, qn121, qn124, qn173, qn177, qn240, qn255, qn295, qn352, qn353, qn533, qn999, qn1000, qn1023, qn6561, qn10000, qn20787, qn1000000, qn252645135, qn858993459, qn1000000000, qn1431655765, q_s1, q_s2, q_s3, q_s4, q_s5, iI_add, iI_sub, iI_mul, iI_neg, q_lt, q_le, q_eq, qz0, qz1, qz2, qz3, if_pos, if_neg, reduceIte, e0])
  exact ⟨N1, e, h1, h2⟩
theorem m_fi (w : ma_wT T) {u : Nat → Int} (L : gs_L) {a : Nat → Int} (ha : ∀ j, j < 8 → 0 ≤ a j ∧ a j ≤ 72) {N : gs_M} (C : ma_M u T V N) (hr : ∀ j : Nat, (j : Int) < T 3 0 → N 159 j = iI (a j)) : ∃ N1, l_X12_goNight_150 L gs_FU (iI 0) N = some (iI ((T 3 0).toNat : Nat), N1) ∧ ma_M (ma_fi a (T 3 0).toNat u) T V N1 ∧ ∀ r, r ≠ 158 → N1 r = N r := by
  have f1 := w.1
  obtain ⟨r, e, N1, rfl, h1, h2⟩ := ma_up0 (fun f i (k : gs_M) => l_X12_goNight_150 L f i k) (T 3 0).toNat
    (fun i k => ma_M (ma_fi a i u) T V k ∧ ∀ r, r ≠ 158 → k r = N r)
    (fun r => ∃ N1, r = (iI ((T 3 0).toNat : Nat), N1) ∧ ma_M (ma_fi a (T 3 0).toNat u) T V N1 ∧ ∀ r, r ≠ 158 → N1 r = N r) N (by omega) ⟨C, fun _ _ => rfl⟩
    (by
      rintro f i k hi ⟨hC, hg⟩
      left
      have i8 : i < 8 := by omega
      have b := ha i i8
      have e0 := hC.fo
      have e1 : gs_rd k 159 8 (iI i) = some (iI (a i)) := by
        rw [q_rdn i rfl (by omega) (by decide), hg 159 (by decide), hr i (by omega)]
      have x2 : ∀ (K : gs_M) x, gs_wr K 158 533 (iI (6 * i + 2)) x = some (gs_up K 158 (6 * i + 2) x) := fun K x => m_set (k := 2) i8 (by decide) x
      have x3 : ∀ (K : gs_M) x, gs_wr K 158 533 (iI (6 * i + 3)) x = some (gs_up K 158 (6 * i + 3) x) := fun K x => m_set (k := 3) i8 (by decide) x
      have x4 : ∀ (K : gs_M) x, gs_wr K 158 533 (iI (6 * i + 4)) x = some (gs_up K 158 (6 * i + 4) x) := fun K x => m_set (k := 4) i8 (by decide) x
      have C1 := ((hC.su w (6 * i + 2) (if 9 < a i then 9 else a i)).su w (6 * i + 3) 0).su w (6 * i + 4) 0
      refine ⟨gs_up (gs_up (gs_up k 158 (6 * i + 2) (iI (if 9 < a i then 9 else a i))) 158 (6 * i + 3) (iI 0)) 158 (6 * i + 4) (iI 0), ?_, C1, fun r hr => by rw [ma_row_ne _ _ _ _ _ hr, ma_row_ne _ _ _ _ _ hr, ma_row_ne _ _ _ _ _ hr, hg r hr]⟩
      simp only [l_X12_goNight_150]
      rcases (by omega : 9 < a i ∨ a i < 9 ∨ a i = 9) with c | c | c
      · rw [if_pos c]
        simp (disch := omega) only [qn0, qn1, qn2, qn3, qn4, qn5, qn6, qn7, qn8, qn9, qn10, qn11, qn12, qn13, qn14, qn15, qn16, qn17, qn18, qn24, qn30, qn31, qn32, qn33, qn36, qn38, qn40, qn41, qn42, qn43, qn45, qn47, qn48, qn49, qn50, qn51, qn52, qn53, qn57, qn58, qn59, qn60, qn61, qn62, qn63, qn91, qn93, qn97, qn99, qn100, qn103, qn104, qn112, qn113, qn115, qn116, qn118, qn119, qn121, qn124, qn173, qn177, qn240, qn255, qn295, qn352, qn353, qn533, qn999, qn1000, qn1023, qn6561, qn10000, qn20787, qn1000000, qn252645135, qn858993459, qn1000000000, qn1431655765, q_s1, q_s2, q_s3, q_s4, q_s5, iI_add, iI_sub, iI_mul, iI_neg, q_lt, q_le, q_eq, qz0, qz1, qz2, qz3, if_pos, if_neg, reduceIte, e0, e1, x2, x3, x4]
      · rw [if_neg (show ¬ 9 < a i by omega)]
        simp (disch := omega) only [qn0, qn1, qn2, qn3, qn4, qn5, qn6, qn7, qn8, qn9, qn10, qn11, qn12, qn13, qn14, qn15, qn16, qn17, qn18, qn24, qn30, qn31, qn32, qn33, qn36, qn38, qn40, qn41, qn42, qn43, qn45, qn47, qn48, qn49, qn50, qn51, qn52, qn53, qn57, qn58, qn59, qn60, qn61, qn62, qn63, qn91, qn93, qn97, qn99, qn100, qn103, qn104, qn112, qn113, qn115, qn116, qn118, qn119, qn121, qn124, qn173, qn177, qn240, qn255, qn295, qn352, qn353, qn533, qn999, qn1000, qn1023, qn6561, qn10000, qn20787, qn1000000, qn252645135, qn858993459, qn1000000000, qn1431655765, q_s1, q_s2, q_s3, q_s4, q_s5, iI_add, iI_sub, iI_mul, iI_neg, q_lt, q_le, q_eq, qz0, qz1, qz2, qz3, if_pos, if_neg, reduceIte, e0, e1, x2, x3, x4]
      · rw [if_neg (show ¬ 9 < a i by omega)]
        rw [c] at e1 ⊢
        simp (disch := omega) only [qn0, qn1, qn2, qn3, qn4, qn5, qn6, qn7, qn8, qn9, qn10, qn11, qn12, qn13, qn14, qn15, qn16, qn17, qn18, qn24, qn30, qn31, qn32, qn33, qn36, qn38, qn40, qn41, qn42, qn43, qn45, qn47, qn48, qn49, qn50, qn51, qn52, qn53, qn57, qn58, qn59, qn60, qn61, qn62, qn63, qn91, qn93, qn97, qn99, qn100, qn103, qn104, qn112, qn113, qn115, qn116, qn118, qn119, qn121, qn124, qn173, qn177, qn240, qn255, qn295, qn352, qn353, qn533, qn999, qn1000, qn1023, qn6561, qn10000, qn20787, qn1000000, qn252645135, qn858993459, qn1000000000, qn1431655765, q_s1, q_s2, q_s3, q_s4, q_s5, iI_add, iI_sub, iI_mul, iI_neg, q_lt, q_le, q_eq, qz0, qz1, qz2, qz3, if_pos, if_neg, reduceIte, e0, e1, x2, x3, x4])
    (by
      rintro f k ⟨hC, hg⟩
      have e0 := hC.fo
      refine ⟨_, ?_, k, rfl, hC, hg⟩
      simp only [l_X12_goNight_150]
      simp (disch := omega) only [qn0, qn1, qn2, qn3, qn4, qn5, qn6, qn7, qn8, qn9, qn10, qn11, qn12, qn13, qn14, qn15, qn16, qn17, qn18, qn24, qn30, qn31, qn32, qn33, qn36, qn38, qn40, qn41, qn42, qn43, qn45, qn47, qn48, qn49, qn50, qn51, qn52, qn53, qn57, qn58, qn59, qn60, qn61, qn62, qn63, qn91, qn93, qn97, qn99, qn100, qn103, qn104, qn112, qn113, qn115, qn116, qn118, qn119, qn121, qn124, qn173, qn177, qn240, qn255, qn295, qn352, qn353, qn533, qn999, qn1000, qn1023, qn6561, qn10000, qn20787, qn1000000, qn252645135, qn858993459, qn1000000000, qn1431655765, q_s1, q_s2, q_s3, q_s4, q_s5, iI_add, iI_sub, iI_mul, iI_neg, q_lt, q_le, q_eq, qz0, qz1, qz2, qz3, if_pos, if_neg, reduceIte, e0])
  exact ⟨N1, e, h1, h2⟩
end Night
