/-! a TOWN read: place, RULES told, people, what RULES, what is told of people -/
abbrev tw_T := Nat × Nat × Nat × (Nat → Int) × (Nat → Int)
def tw_D (D : Nat → Int) (p : Nat) (g : Nat → Int) : Nat → Int := fun j => if 5 * p ≤ j ∧ j < 5 * p + 5 then g (j - 5 * p) else D j
def tw_i0 (b : Nat → Int) (n a : Nat) : Nat ⊕ (Nat × (Nat → Int)) := it_go b n it_s0 it_lo0 it_hi0 4 a 0 it_u0
def tw_i1 (b : Nat → Int) (n a : Nat) : Nat ⊕ (Nat × (Nat → Int)) := it_go b n it_s1 it_lo1 it_hi1 6 a 0 it_u1
def tw_cl (b : Nat → Int) (n : Nat) (q : tw_T) : Nat ⊕ tw_T :=
  if tp_l b n q.1 = 115 ∧ q.2.1 = 0 then (match tw_i0 b n (tp_s b n q.1 + 1) with | .inl e => .inl e | .inr x => .inr (x.1, 1, q.2.2.1, x.2, q.2.2.2.2))
  else if tp_l b n q.1 = 112 ∧ q.2.2.1 < 8 then (match tw_i1 b n (tp_s b n q.1 + 1) with | .inl e => .inl e | .inr x => .inr (x.1, q.2.1, q.2.2.1 + 1, q.2.2.2.1, tw_D q.2.2.2.2 q.2.2.1 x.2))
  else .inl (tp_s b n q.1)
def tw_go (b : Nat → Int) (n : Nat) : Nat → tw_T → Nat ⊕ tw_T
  | 0, q => .inl (tp_s b n q.1)
  | d + 1, q => match tw_cl b n q with
    | .inl e => .inl e
    | .inr x => if tp_l b n x.1 = 59 then tw_go b n d (tp_s b n x.1 + 1, x.2) else if tp_l b n x.1 = -1 then .inr (tp_s b n x.1, x.2) else .inl (tp_s b n x.1)
/-- couples agree, from person i on -/
def tw_cp (p : Nat) (D : Nat → Int) : Nat → Nat → Bool
  | 0, _ => true
  | d + 1, i => if D (5 * i + 4) = 8 then tw_cp p D d (i + 1) else if D (5 * i + 4) = i ∨ (p : Int) ≤ D (5 * i + 4) ∨ D (5 * (D (5 * i + 4)).toNat + 4) ≠ i then false else tw_cp p D d (i + 1)
def tw_en (R : Nat ⊕ tw_T) : Nat ⊕ tw_T := match R with
  | .inl e => .inl e
  | .inr q => if q.2.2.1 = 0 ∨ tw_cp q.2.2.1 q.2.2.2.2 q.2.2.1 0 = false then .inl q.1 else .inr q
def tw_0 : tw_T := (0, 0, 0, it_u0, fun _ => 0)
def tw_r (b : Nat → Int) (n : Nat) : Nat ⊕ tw_T := tw_en (tw_go b n 241 tw_0)
def tw_b (n : Nat) (q : tw_T) : Prop := q.1 ≤ n ∧ q.2.1 ≤ 1 ∧ (q.2.1 = 0 → ∀ k, k < 3 → q.2.2.2.1 k = it_u0 k) ∧ q.2.2.1 ≤ 8 ∧ (∀ k, k < 3 → it_lo0 k ≤ q.2.2.2.1 k ∧ q.2.2.2.1 k ≤ it_hi0 k) ∧ ∀ i k, i < q.2.2.1 → k < 5 → it_lo1 k ≤ q.2.2.2.2 (5 * i + k) ∧ q.2.2.2.2 (5 * i + k) ≤ it_hi1 k
section Town
variable {b : Nat → Int} {n a q0 w0 : Nat} {t : Int} {M N : gs_M}
theorem it_s0_b (z : Int) : -1 ≤ it_s0 z ∧ it_s0 z < 3 := by
  unfold it_s0
  repeat' split
  all_goals omega
theorem it_s1_b (z : Int) : -1 ≤ it_s1 z ∧ it_s1 z < 5 := by
  unfold it_s1
  repeat' split
  all_goals omega
theorem it_go_b (w : tp_w b n) {sp : Int → Int} {lo hi : Nat → Int} {L : Nat} (h59 : sp (-1) = -1) : ∀ (d a z : Nat) (g : Nat → Int), a ≤ n → (∀ k, k < L → lo k ≤ g k ∧ g k ≤ hi k) → (∀ e, it_go b n sp lo hi d a z g = .inl e → e ≤ n) ∧ ∀ q, it_go b n sp lo hi d a z g = .inr q → a ≤ q.1 ∧ q.1 ≤ n ∧ ∀ k, k < L → lo k ≤ q.2 k ∧ q.2 k ≤ hi k := by
  intro d
  induction d with
  | zero =>
    intro a z g ha hg
    have h1 := tp_s_b (b := b) ha
    have e : it_go b n sp lo hi 0 a z g = .inl (tp_s b n a) := rfl
    rw [e]
    exact ⟨fun x h => by have := Sum.inl.inj h; omega, fun q h => by cases h⟩
  | succ d ih =>
    intro a z g ha hg
    have h1 := tp_s_b (b := b) ha
    have hl := tp_l_b (a := a) w
    by_cases c : sp (tp_l b n a) = -1 ∨ z.testBit (sp (tp_l b n a)).toNat = true
    · by_cases c2 : tp_l b n a = 59 ∨ tp_l b n a = -1
      · have e : it_go b n sp lo hi (d + 1) a z g = .inr (tp_s b n a, g) := by simp only [it_go, if_pos c, if_pos c2]
        rw [e]
        exact ⟨fun x h => (by cases h), fun q h => by cases h; exact ⟨h1.1, h1.2, hg⟩⟩
      · have e : it_go b n sp lo hi (d + 1) a z g = .inl (tp_s b n a) := by simp only [it_go, if_pos c, if_neg c2]
        rw [e]
        exact ⟨fun x h => by have := Sum.inl.inj h; omega, fun q h => by cases h⟩
    · have hsn : tp_s b n a < n := by
        rcases hl with c5 | c5
        · exact absurd (Or.inl (by rw [c5.1]; exact h59)) c
        · exact c5.2.2.1
      have hbn := fun q => tp_n_b w (a := tp_s b n a + 1) (by omega) (q := q)
      have hbe := tp_n_e w (a := tp_s b n a + 1) (by omega)
      match hR : tp_n b n 2 (tp_s b n a + 1) with
      | .inl x =>
        have e : it_go b n sp lo hi (d + 1) a z g = .inl x := by simp only [it_go, if_neg c, hR]
        rw [e]
        exact ⟨fun y h => by have := Sum.inl.inj h; have := hbe x hR; omega, fun q h => by cases h⟩
      | .inr (p, v) =>
        have h5 := hbn (p, v) hR
        simp only at h5
        by_cases c6 : v < lo (sp (tp_l b n a)).toNat ∨ hi (sp (tp_l b n a)).toNat < v
        · have e : it_go b n sp lo hi (d + 1) a z g = .inl (p - 1) := by simp only [it_go, if_neg c, hR, if_pos c6]
          rw [e]
          exact ⟨fun y h => by have := Sum.inl.inj h; omega, fun q h => by cases h⟩
        · have e : it_go b n sp lo hi (d + 1) a z g = it_go b n sp lo hi d p (z ||| 2 ^ (sp (tp_l b n a)).toNat) (ma_su g (sp (tp_l b n a)).toNat v) := by simp only [it_go, if_neg c, hR, if_neg c6]
          rw [e]
          have h6 := ih p (z ||| 2 ^ (sp (tp_l b n a)).toNat) (ma_su g (sp (tp_l b n a)).toNat v) h5.2.1 (fun k hk => by
            by_cases ck : k = (sp (tp_l b n a)).toNat
            · rw [ck, ma_su_eq]; omega
            · rw [ma_su_ne _ _ ck]; exact hg k hk)
          exact ⟨h6.1, fun q h => by have := h6.2 q h; exact ⟨by omega, this.2⟩⟩
theorem it_u0_b : ∀ k, k < 3 → it_lo0 k ≤ it_u0 k ∧ it_u0 k ≤ it_hi0 k := by decide
theorem it_u1_b : ∀ k, k < 5 → it_lo1 k ≤ it_u1 k ∧ it_u1 k ≤ it_hi1 k := by decide
theorem tw_i0_b (w : tp_w b n) (ha : a ≤ n) : (∀ e, tw_i0 b n a = .inl e → e ≤ n) ∧ ∀ q, tw_i0 b n a = .inr q → a ≤ q.1 ∧ q.1 ≤ n ∧ ∀ k, k < 3 → it_lo0 k ≤ q.2 k ∧ q.2 k ≤ it_hi0 k := it_go_b w rfl 4 a 0 it_u0 ha it_u0_b
theorem tw_i1_b (w : tp_w b n) (ha : a ≤ n) : (∀ e, tw_i1 b n a = .inl e → e ≤ n) ∧ ∀ q, tw_i1 b n a = .inr q → a ≤ q.1 ∧ q.1 ≤ n ∧ ∀ k, k < 5 → it_lo1 k ≤ q.2 k ∧ q.2 k ≤ it_hi1 k := it_go_b w rfl 6 a 0 it_u1 ha it_u1_b
theorem tw_D_i {D g : Nat → Int} {p k : Nat} (h : k < 5) : tw_D D p g (5 * p + k) = g k := by
  unfold tw_D
  rw [if_pos (by omega)]
  congr 1
  omega
theorem tw_D_o {D g : Nat → Int} {p j : Nat} (h : j < 5 * p) : tw_D D p g j = D j := if_neg (by omega)
/-- a clause keeps the bounds and goes on -/
theorem tw_cl_b (w : tp_w b n) {q : tw_T} (B : tw_b n q) : (∀ e, tw_cl b n q = .inl e → e ≤ n) ∧ ∀ x, tw_cl b n q = .inr x → q.1 < x.1 ∧ tw_b n x := by
  obtain ⟨a, rt, p, R, D⟩ := q
  obtain ⟨h1, h2, h3, h4, h5, h6⟩ := B
  simp only at h1 h2 h3 h4 h5 h6
  have hs := tp_s_b (b := b) h1
  have hl := tp_l_b (a := a) w
  by_cases c : tp_l b n a = 115 ∧ rt = 0
  · have hb := tw_i0_b w (a := tp_s b n a + 1) (by omega)
    match hR : tw_i0 b n (tp_s b n a + 1) with
    | .inl x =>
      have e : tw_cl b n (a, rt, p, R, D) = .inl x := by simp only [tw_cl, if_pos c, hR]
      rw [e]
      exact ⟨fun y h => by have := Sum.inl.inj h; have := hb.1 x hR; omega, fun q h => by cases h⟩
    | .inr x =>
      have e : tw_cl b n (a, rt, p, R, D) = .inr (x.1, 1, p, x.2, D) := by simp only [tw_cl, if_pos c, hR]
      have hx := hb.2 x hR
      rw [e]
      refine ⟨fun y h => (by cases h), fun q h => ?_⟩
      cases h
      exact ⟨(by omega : a < x.1), hx.2.1, Nat.le_refl 1, fun h => absurd (show (1 : Nat) = 0 from h) (by decide), h4, hx.2.2, h6⟩
  · by_cases c2 : tp_l b n a = 112 ∧ p < 8
    · have hb := tw_i1_b w (a := tp_s b n a + 1) (by omega)
      match hR : tw_i1 b n (tp_s b n a + 1) with
      | .inl x =>
        have e : tw_cl b n (a, rt, p, R, D) = .inl x := by simp only [tw_cl, if_neg c, if_pos c2, hR]
        rw [e]
        exact ⟨fun y h => by have := Sum.inl.inj h; have := hb.1 x hR; omega, fun q h => by cases h⟩
      | .inr x =>
        have e : tw_cl b n (a, rt, p, R, D) = .inr (x.1, rt, p + 1, R, tw_D D p x.2) := by simp only [tw_cl, if_neg c, if_pos c2, hR]
        have hx := hb.2 x hR
        rw [e]
        refine ⟨fun y h => (by cases h), fun q h => ?_⟩
        cases h
        refine ⟨(by omega : a < x.1), hx.2.1, h2, h3, (by omega : p + 1 ≤ 8), h5, fun i k hi hk => ?_⟩
        have hi' : i < p + 1 := hi
        show it_lo1 k ≤ tw_D D p x.2 (5 * i + k) ∧ tw_D D p x.2 (5 * i + k) ≤ it_hi1 k
        by_cases ci : i = p
        · subst ci
          rw [tw_D_i hk]
          exact hx.2.2 k hk
        · rw [tw_D_o (by omega)]
          exact h6 i k (by show i < p; omega) hk
    · have e : tw_cl b n (a, rt, p, R, D) = .inl (tp_s b n a) := by simp only [tw_cl, if_neg c, if_neg c2]
      rw [e]
      exact ⟨fun y h => by have := Sum.inl.inj h; omega, fun q h => by cases h⟩
/-! the class -/
def tw_X (M N : gs_M) : Prop := ∀ r, r ≠ 6 → r ≠ 7 → r ≠ 8 → N r = M r
def tw_C (M N : gs_M) (q : tw_T) : Prop := N 6 2 = iI (q.2.2.1 : Nat) ∧ N 6 3 = iI (q.2.1 : Nat) ∧ (∀ k, k < 3 → N 7 k = iI (q.2.2.2.1 k)) ∧ (∀ k, k < 5 * q.2.2.1 → N 8 k = iI (q.2.2.2.2 k)) ∧ tw_X M N
theorem tw_X.K (K : tp_K b n M) (h : tw_X M N) : tp_K b n N := ⟨by rw [h 1 (by decide) (by decide) (by decide)]; exact K.1, fun i hi => by rw [h 2 (by decide) (by decide) (by decide)]; exact K.2 i hi⟩
theorem q_cx2 (M : gs_M) : gs_cpyX M 2 (iI 0) 7 3 (iI 0) (iI 3) = some (it_M M 7 0 3 it_u0) := by
  have h : ∀ j : Nat, j < 3 → gs_sv 2 j = iI (it_u0 j) := by decide +kernel
  unfold gs_cpyX
  rw [if_neg (by decide +kernel)]
  congr 1
  unfold it_M
  congr 1
  funext k
  show (if 0 ≤ k ∧ k < 0 + 3 then gs_sv 2 (0 + (k - 0)) else M 7 k) = _
  by_cases c : 0 ≤ k ∧ k < 0 + 3
  · rw [if_pos c, if_pos c, Nat.zero_add, h _ (by omega)]
  · rw [if_neg c, if_neg c]
theorem q_cx5a : ∀ p : Nat, p < 8 → ¬ (iI 0 < 0 ∨ iI (((p : Nat) : Int) * 5) < 0 ∨ iI 5 < 0 ∨ gs_sn 5 < (iI 0).toNatClampNeg + (iI 5).toNatClampNeg ∨ 40 < (iI (((p : Nat) : Int) * 5)).toNatClampNeg + (iI 5).toNatClampNeg) := by decide +kernel
theorem q_cx5b : ∀ p : Nat, p < 8 → (iI (((p : Nat) : Int) * 5)).toNatClampNeg = 5 * p := by decide +kernel
theorem q_cx5 (M : gs_M) {p : Nat} (hp : p < 8) : gs_cpyX M 5 (iI 0) 8 40 (iI (((p : Nat) : Int) * 5)) (iI 5) = some (it_M M 8 (5 * p) 5 it_u1) := by
  have h : ∀ j : Nat, j < 5 → gs_sv 5 j = iI (it_u1 j) := by decide +kernel
  unfold gs_cpyX
  rw [if_neg (q_cx5a p hp), q_cx5b p hp]
  congr 1
  unfold it_M
  congr 1
  funext k
  show (if 5 * p ≤ k ∧ k < 5 * p + 5 then gs_sv 5 (0 + (k - 5 * p)) else M 8 k) = _
  by_cases c : 5 * p ≤ k ∧ k < 5 * p + 5
  · rw [if_pos c, if_pos c, Nat.zero_add, h _ (by omega)]
  · rw [if_neg c, if_neg c]
theorem c_clause (w : tp_w b n) (K : tp_K b n M) {q : tw_T} (B : tw_b n q) (C : tw_C M N q) : ∃ N' a', tw_X M N' ∧ (∀ e, tw_cl b n q = .inl e → f_X9_readClause (tp_m N q.1 (-1)) = some (iI 0, tp_m N' a' e)) ∧ ∀ x, tw_cl b n q = .inr x → f_X9_readClause (tp_m N q.1 (-1)) = some (iI 1, tp_m N' x.1 (-1)) ∧ tw_C M N' x := by
  have w1 := w.1
  obtain ⟨a, rt, p, R, D⟩ := q
  obtain ⟨h1, h2, h3, h4, h5, h6⟩ := B
  obtain ⟨g1, g2, g3, g4, g5⟩ := C
  simp only at h1 h2 h3 h4 h5 h6 g1 g2 g3 g4 g5
  have KN := g5.K K
  have hs := tp_s_b (b := b) h1
  have hl := tp_l_b (a := a) w
  have e1 := c_look (t := -1) w KN h1
  have r62 : tp_m N (tp_s b n a) (-1) 6 2 = iI (p : Nat) := g1
  have r63 : tp_m N (tp_s b n a) (-1) 6 3 = iI (rt : Nat) := g2
  have ef := c_fail (M := N) (a := tp_s b n a)
  by_cases c : tp_l b n a = 115 ∧ rt = 0
  · have e2 := c_step1 (t := -1) w KN (a := tp_s b n a) (by omega)
    have e3 : gs_up (tp_m N (tp_s b n a + 1) (-1)) 6 3 (iI 1) = tp_m (gs_up N 6 3 (iI 1)) (tp_s b n a + 1) (-1) := tp_ur _ (by decide)
    have K1 : tp_K b n (gs_up N 6 3 (iI 1)) := KN.up _ (by decide) (by decide)
    have e4 : it_M (gs_up N 6 3 (iI 1)) 7 0 3 it_u0 = gs_up N 6 3 (iI 1) := it_M_id (fun k hk => by
      rw [Nat.zero_add, ma_row_ne _ _ _ _ _ (by decide), g3 k hk, h3 c.2 k hk])
    obtain ⟨g', a', e5⟩ := c_it0 w it_s0_b (o := 0) (by decide) 4 0 (tp_s b n a + 1) gs_FU 0 it_u0 (gs_up N 6 3 (iI 1)) K1 (by decide) (by omega) (by decide) (by decide) (by decide)
    rw [e4] at e5
    have hX : ∀ g, tw_X M (it_M (gs_up N 6 3 (iI 1)) 7 0 3 g) := fun g r x1 x2 x3 => by rw [it_M_r x2, ma_row_ne _ _ _ _ _ x1, g5 r x1 x2 x3]
    have e5' : match tw_i0 b n (tp_s b n a + 1) with | .inl e => l_X9_readItems_2_6 (iI 0) gs_FU (iI 0) (iI 0) (tp_m (gs_up N 6 3 (iI 1)) (tp_s b n a + 1) (-1)) = some (iI 0, tp_m (it_M (gs_up N 6 3 (iI 1)) 7 0 3 g') a' e) | .inr q => l_X9_readItems_2_6 (iI 0) gs_FU (iI 0) (iI 0) (tp_m (gs_up N 6 3 (iI 1)) (tp_s b n a + 1) (-1)) = some (iI 1, tp_m (it_M (gs_up N 6 3 (iI 1)) 7 0 3 q.2) q.1 (-1)) := e5
    obtain ⟨c, rfl⟩ := c
    match hR : tw_i0 b n (tp_s b n a + 1), e5' with
    | .inl x, e5' =>
      have e : tw_cl b n (a, 0, p, R, D) = .inl x := by simp only [tw_cl, c, true_and, if_true, hR]
      simp only at e5'
      refine ⟨it_M (gs_up N 6 3 (iI 1)) 7 0 3 g', a', hX g', fun y h => ?_, fun y h => ?_⟩
      · rw [e] at h
        cases h
        unfold f_X9_readClause f_X9_readItems_2
        simp (disch := omega) only [qn0, qn1, qn2, qn3, qn4, qn5, qn6, qn7, qn8, qn9, qn10, qn11, qn12, qn13, qn14, qn15, qn16, qn17, qn18, qn24, qn30, qn31, qn32, qn33, qn36, qn38, qn40, qn41, qn42, qn43, qn45, qn47, qn48, qn49, qn50, qn51, qn52, qn53, qn57, qn58, qn59, qn60, qn61, qn62, qn63, qn91, qn93, qn97, qn99, qn100, qn103, qn104, qn112, qn113, qn115, qn116, qn118, qn119, qn121, qn124, qn173, qn177, qn240, qn255, qn295, qn352, qn353, qn533, qn999, qn1000, qn1023, qn6561, qn10000, qn20787, qn1000000, qn252645135, qn858993459, qn1000000000, qn1431655765, q_s1, q_s2, q_s3, q_s4, q_s5, iI_add, iI_sub, iI_mul, iI_neg, q_lt, q_le, q_eq, qz0, qz1, qz2, qz3, if_pos, if_neg, reduceIte, e1, r62, r63, c, e2, e3, e5']
      · rw [e] at h
        cases h
    | .inr x, e5' =>
      have e : tw_cl b n (a, 0, p, R, D) = .inr (x.1, 1, p, x.2, D) := by simp only [tw_cl, c, true_and, if_true, hR]
      simp only at e5'
      refine ⟨it_M (gs_up N 6 3 (iI 1)) 7 0 3 x.2, a', hX x.2, fun y h => ?_, fun y h => ?_⟩
      · rw [e] at h
        cases h
      · rw [e] at h
        cases h
        refine ⟨?_, ?_, ?_, fun k hk => ?_, fun k hk => ?_, hX x.2⟩
        · unfold f_X9_readClause f_X9_readItems_2
          simp (disch := omega) only [qn0, qn1, qn2, qn3, qn4, qn5, qn6, qn7, qn8, qn9, qn10, qn11, qn12, qn13, qn14, qn15, qn16, qn17, qn18, qn24, qn30, qn31, qn32, qn33, qn36, qn38, qn40, qn41, qn42, qn43, qn45, qn47, qn48, qn49, qn50, qn51, qn52, qn53, qn57, qn58, qn59, qn60, qn61, qn62, qn63, qn91, qn93, qn97, qn99, qn100, qn103, qn104, qn112, qn113, qn115, qn116, qn118, qn119, qn121, qn124, qn173, qn177, qn240, qn255, qn295, qn352, qn353, qn533, qn999, qn1000, qn1023, qn6561, qn10000, qn20787, qn1000000, qn252645135, qn858993459, qn1000000000, qn1431655765, q_s1, q_s2, q_s3, q_s4, q_s5, iI_add, iI_sub, iI_mul, iI_neg, q_lt, q_le, q_eq, qz0, qz1, qz2, qz3, if_pos, if_neg, reduceIte, e1, r62, r63, c, e2, e3, e5']
        · rw [it_M_r (by decide), ma_cell_ne _ _ _ _ _ _ (by decide)]
          exact g1
        · rw [it_M_r (by decide), gs_up_eq]
          rfl
        · have := it_M_i (M := gs_up N 6 3 (iI 1)) (r := 7) (o := 0) (l := 3) (g := x.2) hk
          rw [Nat.zero_add] at this
          exact this
        · rw [it_M_r (by decide), ma_row_ne _ _ _ _ _ (by decide)]
          exact g4 k hk
  · by_cases c2 : tp_l b n a = 112 ∧ p < 8
    · have hp := c2.2
      have e2 := c_step1 (t := -1) w KN (a := tp_s b n a) (by omega)
      have r62b : tp_m N (tp_s b n a + 1) (-1) 6 2 = iI (p : Nat) := g1
      have e3 : ∀ v, gs_up (tp_m N (tp_s b n a + 1) (-1)) 6 2 v = tp_m (gs_up N 6 2 v) (tp_s b n a + 1) (-1) := fun v => tp_ur _ (by decide)
      have K1 : tp_K b n (gs_up N 6 2 (iI ((p : Int) + 1))) := KN.up _ (by decide) (by decide)
      have e4 : gs_cpyX (tp_m (gs_up N 6 2 (iI ((p : Int) + 1))) (tp_s b n a + 1) (-1)) 5 (iI 0) 8 40 (iI ((p : Int) * 5)) (iI 5) = some (tp_m (it_M (gs_up N 6 2 (iI ((p : Int) + 1))) 8 (5 * p) 5 it_u1) (tp_s b n a + 1) (-1)) := by
        rw [q_cx5 _ hp]
        congr 1
        exact tp_rr _ (by decide)
      obtain ⟨g', a', e5⟩ := c_it1 w it_s1_b (o := 5 * p) (by omega) 6 0 (tp_s b n a + 1) gs_FU 0 it_u1 (gs_up N 6 2 (iI ((p : Int) + 1))) K1 (by decide) (by omega) (by decide) (by decide) (by decide)
      have hX : ∀ g, tw_X M (it_M (gs_up N 6 2 (iI ((p : Int) + 1))) 8 (5 * p) 5 g) := fun g r x1 x2 x3 => by rw [it_M_r x3, ma_row_ne _ _ _ _ _ x1, g5 r x1 x2 x3]
      have ho : iI ((5 * p : Nat) : Int) = iI ((p : Int) * 5) := by congr 1; omega
      rw [ho] at e5
      have e5' : match tw_i1 b n (tp_s b n a + 1) with | .inl e => l_X9_readItems_6 (iI ((p : Int) * 5)) gs_FU (iI 0) (iI 0) (tp_m (it_M (gs_up N 6 2 (iI ((p : Int) + 1))) 8 (5 * p) 5 it_u1) (tp_s b n a + 1) (-1)) = some (iI 0, tp_m (it_M (gs_up N 6 2 (iI ((p : Int) + 1))) 8 (5 * p) 5 g') a' e) | .inr q => l_X9_readItems_6 (iI ((p : Int) * 5)) gs_FU (iI 0) (iI 0) (tp_m (it_M (gs_up N 6 2 (iI ((p : Int) + 1))) 8 (5 * p) 5 it_u1) (tp_s b n a + 1) (-1)) = some (iI 1, tp_m (it_M (gs_up N 6 2 (iI ((p : Int) + 1))) 8 (5 * p) 5 q.2) q.1 (-1)) := e5
      obtain ⟨c2, -⟩ := c2
      match hR : tw_i1 b n (tp_s b n a + 1), e5' with
      | .inl x, e5' =>
        have e : tw_cl b n (a, rt, p, R, D) = .inl x := by simp only [tw_cl, if_neg c, if_pos (And.intro c2 hp), hR]
        simp only at e5'
        refine ⟨it_M (gs_up N 6 2 (iI ((p : Int) + 1))) 8 (5 * p) 5 g', a', hX g', fun y h => ?_, fun y h => ?_⟩
        · rw [e] at h
          cases h
          unfold f_X9_readClause f_X9_readItems
          simp (disch := omega) only [qn0, qn1, qn2, qn3, qn4, qn5, qn6, qn7, qn8, qn9, qn10, qn11, qn12, qn13, qn14, qn15, qn16, qn17, qn18, qn24, qn30, qn31, qn32, qn33, qn36, qn38, qn40, qn41, qn42, qn43, qn45, qn47, qn48, qn49, qn50, qn51, qn52, qn53, qn57, qn58, qn59, qn60, qn61, qn62, qn63, qn91, qn93, qn97, qn99, qn100, qn103, qn104, qn112, qn113, qn115, qn116, qn118, qn119, qn121, qn124, qn173, qn177, qn240, qn255, qn295, qn352, qn353, qn533, qn999, qn1000, qn1023, qn6561, qn10000, qn20787, qn1000000, qn252645135, qn858993459, qn1000000000, qn1431655765, q_s1, q_s2, q_s3, q_s4, q_s5, iI_add, iI_sub, iI_mul, iI_neg, q_lt, q_le, q_eq, qz0, qz1, qz2, qz3, if_pos, if_neg, reduceIte, e1, r62, r62b, c2, e2, e3, e4, e5']
        · rw [e] at h
          cases h
      | .inr x, e5' =>
        have e : tw_cl b n (a, rt, p, R, D) = .inr (x.1, rt, p + 1, R, tw_D D p x.2) := by simp only [tw_cl, if_neg c, if_pos (And.intro c2 hp), hR]
        simp only at e5'
        refine ⟨it_M (gs_up N 6 2 (iI ((p : Int) + 1))) 8 (5 * p) 5 x.2, a', hX x.2, fun y h => ?_, fun y h => ?_⟩
        · rw [e] at h
          cases h
        · rw [e] at h
          cases h
          refine ⟨?_, ?_, ?_, fun k hk => ?_, fun k hk => ?_, hX x.2⟩
          · unfold f_X9_readClause f_X9_readItems
            simp (disch := omega) only [qn0, qn1, qn2, qn3, qn4, qn5, qn6, qn7, qn8, qn9, qn10, qn11, qn12, qn13, qn14, qn15, qn16, qn17, qn18, qn24, qn30, qn31, qn32, qn33, qn36, qn38, qn40, qn41, qn42, qn43, qn45, qn47, qn48, qn49, qn50, qn51, qn52, qn53, qn57, qn58, qn59, qn60, qn61, qn62, qn63, qn91, qn93, qn97, qn99, qn100, qn103, qn104, qn112, qn113, qn115, qn116, qn118, qn119, qn121, qn124, qn173, qn177, qn240, qn255, qn295, qn352, qn353, qn533, qn999, qn1000, qn1023, qn6561, qn10000, qn20787, qn1000000, qn252645135, qn858993459, qn1000000000, qn1431655765, q_s1, q_s2, q_s3, q_s4, q_s5, iI_add, iI_sub, iI_mul, iI_neg, q_lt, q_le, q_eq, qz0, qz1, qz2, qz3, if_pos, if_neg, reduceIte, e1, r62, r62b, c2, e2, e3, e4, e5']
          · rw [it_M_r (by decide), gs_up_eq]
            rfl
          · rw [it_M_r (by decide), ma_cell_ne _ _ _ _ _ _ (by decide)]
            exact g2
          · rw [it_M_r (by decide), ma_row_ne _ _ _ _ _ (by decide)]
            exact g3 k hk
          · have hk' : k < 5 * (p + 1) := hk
            show _ = iI (tw_D D p x.2 k)
            by_cases ck : k < 5 * p
            · rw [it_M_o (Or.inl ck), ma_row_ne _ _ _ _ _ (by decide), tw_D_o ck]
              exact g4 k ck
            · obtain ⟨m, rfl⟩ : ∃ m, k = 5 * p + m := ⟨k - 5 * p, by omega⟩
              rw [it_M_i (by omega), tw_D_i (by omega)]
    · have e : tw_cl b n (a, rt, p, R, D) = .inl (tp_s b n a) := by simp only [tw_cl, if_neg c, if_neg c2]
      refine ⟨N, tp_s b n a, g5, fun y h => ?_, fun y h => ?_⟩
      · rw [e] at h
        cases h
        unfold f_X9_readClause
        by_cases c3 : tp_l b n a = 115
        · have c4 : rt ≠ 0 := fun h => c ⟨c3, h⟩
          simp (disch := omega) only [qn0, qn1, qn2, qn3, qn4, qn5, qn6, qn7, qn8, qn9, qn10, qn11, qn12, qn13, qn14, qn15, qn16, qn17, qn18, qn24, qn30, qn31, qn32, qn33, qn36, qn38, qn40, qn41, qn42, qn43, qn45, qn47, qn48, qn49, qn50, qn51, qn52, qn53, qn57, qn58, qn59, qn60, qn61, qn62, qn63, qn91, qn93, qn97, qn99, qn100, qn103, qn104, qn112, qn113, qn115, qn116, qn118, qn119, qn121, qn124, qn173, qn177, qn240, qn255, qn295, qn352, qn353, qn533, qn999, qn1000, qn1023, qn6561, qn10000, qn20787, qn1000000, qn252645135, qn858993459, qn1000000000, qn1431655765, q_s1, q_s2, q_s3, q_s4, q_s5, iI_add, iI_sub, iI_mul, iI_neg, q_lt, q_le, q_eq, qz0, qz1, qz2, qz3, if_pos, if_neg, reduceIte, e1, r62, r63, c3, ef]
        · by_cases c4 : tp_l b n a = 112
          · have c5 : ¬ p < 8 := fun h => c2 ⟨c4, h⟩
            simp (disch := omega) only [qn0, qn1, qn2, qn3, qn4, qn5, qn6, qn7, qn8, qn9, qn10, qn11, qn12, qn13, qn14, qn15, qn16, qn17, qn18, qn24, qn30, qn31, qn32, qn33, qn36, qn38, qn40, qn41, qn42, qn43, qn45, qn47, qn48, qn49, qn50, qn51, qn52, qn53, qn57, qn58, qn59, qn60, qn61, qn62, qn63, qn91, qn93, qn97, qn99, qn100, qn103, qn104, qn112, qn113, qn115, qn116, qn118, qn119, qn121, qn124, qn173, qn177, qn240, qn255, qn295, qn352, qn353, qn533, qn999, qn1000, qn1023, qn6561, qn10000, qn20787, qn1000000, qn252645135, qn858993459, qn1000000000, qn1431655765, q_s1, q_s2, q_s3, q_s4, q_s5, iI_add, iI_sub, iI_mul, iI_neg, q_lt, q_le, q_eq, qz0, qz1, qz2, qz3, if_pos, if_neg, reduceIte, e1, r62, r63, c4, ef]
          · simp (disch := omega) only [qn0, qn1, qn2, qn3, qn4, qn5, qn6, qn7, qn8, qn9, qn10, qn11, qn12, qn13, qn14, qn15, qn16, qn17, qn18, qn24, qn30, qn31, qn32, qn33, qn36, qn38, qn40, qn41, qn42, qn43, qn45, qn47, qn48, qn49, qn50, qn51, qn52, qn53, qn57, qn58, qn59, qn60, qn61, qn62, qn63, qn91, qn93, qn97, qn99, qn100, qn103, qn104, qn112, qn113, qn115, qn116, qn118, qn119, qn121, qn124, qn173, qn177, qn240, qn255, qn295, qn352, qn353, qn533, qn999, qn1000, qn1023, qn6561, qn10000, qn20787, qn1000000, qn252645135, qn858993459, qn1000000000, qn1431655765, q_s1, q_s2, q_s3, q_s4, q_s5, iI_add, iI_sub, iI_mul, iI_neg, q_lt, q_le, q_eq, qz0, qz1, qz2, qz3, if_pos, if_neg, reduceIte, e1, r62, r63, ef]
      · rw [e] at h
        cases h
end Town
