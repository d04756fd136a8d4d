/-! a LAW gone through by the model -/
def lr_wf (kd : Int) (e : Nat → Int) (l : List lr_L) : Option Int := l.foldl (lr_nx kd e) none
theorem lr_wf_1 (kd : Int) (e : Nat → Int) (l : List lr_L) (x : lr_L) : lr_wf kd e (l ++ [x]) = lr_nx kd e (lr_wf kd e l) x := by
  unfold lr_wf
  rw [List.foldl_append]
  rfl
theorem lr_wf_s (kd : Int) (e : Nat → Int) (v : Int) : ∀ l : List lr_L, l.foldl (lr_nx kd e) (some v) = some v := by
  intro l
  induction l with
  | nil => rfl
  | cons x l ih => exact ih
theorem lr_wf_v (kd : Int) (e : Nat → Int) : ∀ l : List lr_L, lm_v (lr_wf kd e l) = lr_wo kd e l := by
  intro l
  induction l with
  | nil => rfl
  | cons x l ih =>
    unfold lr_wf lr_wo
    by_cases c : x.1 = kd ∧ x.2.2.1 e ≠ 0
    · have e1 : lr_nx kd e none x = some (x.2.2.2.2 e) := if_pos c
      rw [if_pos c, List.foldl_cons, e1, lr_wf_s]
      rfl
    · have e1 : lr_nx kd e none x = none := if_neg c
      rw [if_neg c, List.foldl_cons, e1]
      exact ih
theorem lr_al_g {b : Nat → Int} {n : Nat} (w : tp_w b n) : ∀ (d a : Nat) (l l' : List lr_L), a ≤ n → (lr_fl l).length ≤ a → 4 * l.length ≤ a → (∀ x ∈ l, lr_ok x) → lr_al b n d a l = .inr l' → (lr_fl l').length ≤ n ∧ 4 * l'.length ≤ n + 1 ∧ ∀ x ∈ l', lr_ok x := by
  intro d
  induction d with
  | zero =>
    intro a l l' _ _ _ _ h
    cases h
  | succ d ih =>
    intro a l l' ha hf hl ho h
    have hg := lr_cz_g (b := b) w ha
    match hR : lr_cz b n a with
    | .inl u =>
      rw [lr_al_e hR] at h
      cases h
    | .inr y =>
      rw [lr_al_r hR] at h
      obtain ⟨g1, g2, g3, g4⟩ := hg.2 y hR
      have hs := tp_s_b (b := b) g2
      have hl2 := tp_l_b (a := y.1) w
      have hf' : (lr_fl (l ++ [y.2])).length ≤ y.1 := by
        rw [lr_fl_1, List.length_append]
        omega
      have hl' : (l ++ [y.2]).length = l.length + 1 := by
        rw [List.length_append]
        rfl
      have ho' : ∀ x ∈ l ++ [y.2], lr_ok x := fun x hx => by
        rcases List.mem_append.1 hx with hx | hx
        · exact ho x hx
        · rw [List.mem_singleton.1 hx]
          exact g4
      unfold lr_go at h
      by_cases c : tp_l b n y.1 = 59
      · rw [if_pos c] at h
        exact ih (tp_s b n y.1 + 1) _ l' (by omega) (by omega) (by omega) ho' h
      · rw [if_neg c] at h
        by_cases c2 : tp_l b n y.1 = -1
        · rw [if_pos c2] at h
          cases h
          exact ⟨by omega, by omega, ho'⟩
        · rw [if_neg c2] at h
          cases h
theorem lr_wo_b {kd : Int} {e : Nat → Int} (he : ∀ i, i < 6 → -1000000 ≤ e i ∧ e i ≤ 1000000) : ∀ l : List lr_L, (∀ x ∈ l, lr_ok x) → -1000000 ≤ lr_wo kd e l ∧ lr_wo kd e l ≤ 1000000 := by
  intro l
  induction l with
  | nil =>
    intro _
    exact ⟨by show (-1000000 : Int) ≤ 0; decide, by show (0 : Int) ≤ 1000000; decide⟩
  | cons x l ih =>
    intro h
    unfold lr_wo
    by_cases c : x.1 = kd ∧ x.2.2.1 e ≠ 0
    · rw [if_pos c]
      exact (h x (List.mem_cons_self ..)).2.2.2.2.1 (-1000000) 1000000 e (Int.le_refl _) (Int.le_refl _) he
    · rw [if_neg c]
      exact ih (fun y hy => h y (List.mem_cons_of_mem _ hy))
def gt_T (R : Option gs_M) : Option gs_M :=
  gs_b1 R fun M13 =>
  gs_b1 (if (M13 147 11) = (-1 : Int32) then
  gs_b2 (f_X12_look M13) fun v19 M20 =>
  if v19 = (-1 : Int32) then
  some (M20)
  else
  gs_b2 (f_X12_fails M20) fun v23 M24 =>
  some (M24)
  else
  some (M13)) fun M15 =>
  some M15
def lm_0 (M : gs_M) (r : Nat) (x2 x3 : Int32) (kd : Int) : gs_M := gs_up (gs_up (gs_up (gs_up M 147 5 (nI r)) 147 8 x2) 147 9 x3) 147 13 (iI kd)
section Law24
variable {b : Nat → Int} {n r o a p : Nat} {t : Int} {M N : gs_M} {e : Nat → Int} {ov : Option Int} {kd : Int} {x : Int32}
theorem m_st1 (x y : Int32) : f_X12_starts M x y = some (md_m (gs_up (gs_up (gs_up M 147 5 (nI 149)) 147 8 x) 147 9 y) 0 (-1)) := by
  unfold f_X12_starts
  simp (disch := omega) only [qn0, qn1, qn2, qn3, qn4, qn5, qn6, qn7, qn8, qn9, qn10, qn11, qn12, qn13, qn14, qn15, qn16, qn17, qn18, qn24, qn30, qn31, qn32, qn33, qn36, qn38, qn40, qn41, qn42, qn43, qn45, qn47, qn48, qn49, qn50, qn51, qn52, qn53, qn57, qn58, qn59, qn60, qn61, qn62, qn63, qn91, qn93, qn97, qn99, qn100, qn103, qn104, qn112, qn113, qn115, qn116, qn118, qn119, qn121, qn124, qn173, qn177, qn240, qn255, qn295, qn352, qn353, qn533, qn999, qn1000, qn1023, qn6561, qn10000, qn20787, qn1000000, qn252645135, qn858993459, qn1000000000, qn1431655765, q_s1, q_s2, q_s3, q_s4, q_s5, iI_add, iI_sub, iI_mul, iI_neg, q_lt, q_le, q_eq, qz0, qz1, qz2, qz3, if_pos, if_neg, reduceIte]
  rfl
theorem lm_st (Z : gs_M) (k : Int32) : gs_up (gs_up (gs_up (gs_up (md_m Z 0 (-1)) 147 13 k) 147 12 (iI 0)) 147 17 (iI 0)) 147 14 (iI 0) = lm_m (lm_c (gs_up Z 147 13 k) none) (iI 0) 0 (-1) := by
  funext y k
  unfold lm_m md_m lm_c
  simp only [gs_up_at, lm_f, lm_v]
  repeat' split
  all_goals first
    | rfl
    | (exfalso; omega)
theorem gt_T0 {u : Nat} (hu : u ≤ 240) : gt_T (some (lm_m N x a (u : Nat))) = some (lm_m N x a (u : Nat)) := by
  unfold gt_T
  simp (disch := omega) only [qn0, qn1, qn2, qn3, qn4, qn5, qn6, qn7, qn8, qn9, qn10, qn11, qn12, qn13, qn14, qn15, qn16, qn17, qn18, qn24, qn30, qn31, qn32, qn33, qn36, qn38, qn40, qn41, qn42, qn43, qn45, qn47, qn48, qn49, qn50, qn51, qn52, qn53, qn57, qn58, qn59, qn60, qn61, qn62, qn63, qn91, qn93, qn97, qn99, qn100, qn103, qn104, qn112, qn113, qn115, qn116, qn118, qn119, qn121, qn124, qn173, qn177, qn240, qn255, qn295, qn352, qn353, qn533, qn999, qn1000, qn1023, qn6561, qn10000, qn20787, qn1000000, qn252645135, qn858993459, qn1000000000, qn1431655765, q_s1, q_s2, q_s3, q_s4, q_s5, iI_add, iI_sub, iI_mul, iI_neg, q_lt, q_le, q_eq, qz0, qz1, qz2, qz3, if_pos, if_neg, reduceIte, lm_11]
theorem gt_eq (M : gs_M) (x2 x3 x4 : Int32) : f_X12_goThrough M x2 x3 x4 =
  gs_b1 (f_X12_starts M x2 x3) fun M1 =>
  gs_b1 (some (gs_up M1 147 13 x4)) fun M4 =>
  gs_b1 (some (gs_up M4 147 12 (0 : Int32))) fun M6 =>
  gs_b1 (some (gs_up M6 147 17 (0 : Int32))) fun M8 =>
  gs_b1 (some (gs_up M8 147 14 (0 : Int32))) fun M10 =>
  gs_b1 (f_X12_clause M10) fun M11 =>
  gt_T (l_X12_goThrough_32 x2 x3 x4 gs_FU M11) := rfl
set_option maxHeartbeats 20000000 in
theorem m_lpG (w : tp_w b n) (K : md_K r o b n N) (he : lm_e e N) (hk : N 147 13 = iI kd) (hkd : kd = 121 ∨ kd = 118) (x2 x3 x4 : Int32) : ∀ (d f p : Nat) (l : List lr_L), p ≤ n → n < p + d → d < f → (∀ u, lr_go b n d p l = .inl u → u ≤ n ∧ ∃ x a' o', gt_T (l_X12_goThrough_32 x2 x3 x4 f (lm_m (lm_c N (lr_wf kd e l)) (iI 0) p (-1))) = some (lm_m (lm_c N o') x a' (u : Nat))) ∧ ∀ l', lr_go b n d p l = .inr l' → ∃ a', gt_T (l_X12_goThrough_32 x2 x3 x4 f (lm_m (lm_c N (lr_wf kd e l)) (iI 0) p (-1))) = some (lm_m (lm_c N (lr_wf kd e l')) (iI 0) a' (-1)) := by
  have w1 := w.1
  intro d
  induction d with
  | zero =>
    intro f p l h1 h2
    omega
  | succ d ih =>
    intro f p l h1 h2 h3
    obtain ⟨f, rfl⟩ : ∃ k, f = k + 1 + 1 := ⟨f - 2, by omega⟩
    have K1 := lm_cK (ov := lr_wf kd e l) K
    have hs := tp_s_b (b := b) h1
    have hl := tp_l_b (a := p) w
    have e1 := lm_look (x := iI 0) (t := -1) w K1 h1
    have e2 := lm_look2 (x := iI 0) (t := -1) w K1 h1
    by_cases c : tp_l b n p = 59
    · have eg : lr_go b n (d + 1) p l = lr_al b n (d + 1) (tp_s b n p + 1) l := if_pos c
      rw [eg]
      rw [c] at e1
      obtain ⟨k1, k2⟩ := m_lcl w K he hk hkd (lr_wf kd e l) (a := tp_s b n p + 1) (by omega)
      have hg := lr_cz_g (b := b) w (a := tp_s b n p + 1) (by omega)
      match hR : lr_cz b n (tp_s b n p + 1) with
      | .inl u =>
        obtain ⟨hu, x', a', k3⟩ := k1 u hR
        rw [lr_al_e hR]
        have es : l_X12_goThrough_32 x2 x3 x4 (f + 1) (lm_m (lm_c N (lr_wf kd e l)) x' a' (u : Nat)) = some (lm_m (lm_c N (lr_wf kd e l)) x' a' (u : Nat)) := by
          rw [l_X12_goThrough_32]
          simp (disch := omega) only [qn0, qn1, qn2, qn3, qn4, qn5, qn6, qn7, qn8, qn9, qn10, qn11, qn12, qn13, qn14, qn15, qn16, qn17, qn18, qn24, qn30, qn31, qn32, qn33, qn36, qn38, qn40, qn41, qn42, qn43, qn45, qn47, qn48, qn49, qn50, qn51, qn52, qn53, qn57, qn58, qn59, qn60, qn61, qn62, qn63, qn91, qn93, qn97, qn99, qn100, qn103, qn104, qn112, qn113, qn115, qn116, qn118, qn119, qn121, qn124, qn173, qn177, qn240, qn255, qn295, qn352, qn353, qn533, qn999, qn1000, qn1023, qn6561, qn10000, qn20787, qn1000000, qn252645135, qn858993459, qn1000000000, qn1431655765, q_s1, q_s2, q_s3, q_s4, q_s5, iI_add, iI_sub, iI_mul, iI_neg, q_lt, q_le, q_eq, qz0, qz1, qz2, qz3, if_pos, if_neg, reduceIte, lm_11]
        have e5 : l_X12_goThrough_32 x2 x3 x4 (f + 1 + 1) (lm_m (lm_c N (lr_wf kd e l)) (iI 0) p (-1)) = some (lm_m (lm_c N (lr_wf kd e l)) x' a' (u : Nat)) := by
          rw [l_X12_goThrough_32]
          simp (disch := omega) only [qn0, qn1, qn2, qn3, qn4, qn5, qn6, qn7, qn8, qn9, qn10, qn11, qn12, qn13, qn14, qn15, qn16, qn17, qn18, qn24, qn30, qn31, qn32, qn33, qn36, qn38, qn40, qn41, qn42, qn43, qn45, qn47, qn48, qn49, qn50, qn51, qn52, qn53, qn57, qn58, qn59, qn60, qn61, qn62, qn63, qn91, qn93, qn97, qn99, qn100, qn103, qn104, qn112, qn113, qn115, qn116, qn118, qn119, qn121, qn124, qn173, qn177, qn240, qn255, qn295, qn352, qn353, qn533, qn999, qn1000, qn1023, qn6561, qn10000, qn20787, qn1000000, qn252645135, qn858993459, qn1000000000, qn1431655765, q_s1, q_s2, q_s3, q_s4, q_s5, iI_add, iI_sub, iI_mul, iI_neg, q_lt, q_le, q_eq, qz0, qz1, qz2, qz3, if_pos, if_neg, reduceIte, lm_11, e1, lm_10, lm_s, k3, es]
        rw [e5]
        refine ⟨fun u' h => ?_, fun y h => (by cases h)⟩
        cases h
        exact ⟨hu, x', a', _, gt_T0 (by omega)⟩
      | .inr y =>
        have k3 := k2 y hR
        obtain ⟨g1, g2, -⟩ := hg.2 y hR
        rw [lr_al_r hR]
        have e5 : l_X12_goThrough_32 x2 x3 x4 (f + 1 + 1) (lm_m (lm_c N (lr_wf kd e l)) (iI 0) p (-1)) = l_X12_goThrough_32 x2 x3 x4 (f + 1) (lm_m (lm_c N (lr_wf kd e (l ++ [y.2]))) (iI 0) y.1 (-1)) := by
          rw [l_X12_goThrough_32, lr_wf_1]
          simp (disch := omega) only [qn0, qn1, qn2, qn3, qn4, qn5, qn6, qn7, qn8, qn9, qn10, qn11, qn12, qn13, qn14, qn15, qn16, qn17, qn18, qn24, qn30, qn31, qn32, qn33, qn36, qn38, qn40, qn41, qn42, qn43, qn45, qn47, qn48, qn49, qn50, qn51, qn52, qn53, qn57, qn58, qn59, qn60, qn61, qn62, qn63, qn91, qn93, qn97, qn99, qn100, qn103, qn104, qn112, qn113, qn115, qn116, qn118, qn119, qn121, qn124, qn173, qn177, qn240, qn255, qn295, qn352, qn353, qn533, qn999, qn1000, qn1023, qn6561, qn10000, qn20787, qn1000000, qn252645135, qn858993459, qn1000000000, qn1431655765, q_s1, q_s2, q_s3, q_s4, q_s5, iI_add, iI_sub, iI_mul, iI_neg, q_lt, q_le, q_eq, qz0, qz1, qz2, qz3, if_pos, if_neg, reduceIte, lm_11, e1, lm_10, lm_s, k3]
        rw [e5]
        exact ih (f + 1) y.1 (l ++ [y.2]) g2 (by omega) (by omega)
    · have e5 : l_X12_goThrough_32 x2 x3 x4 (f + 1 + 1) (lm_m (lm_c N (lr_wf kd e l)) (iI 0) p (-1)) = some (lm_m (lm_c N (lr_wf kd e l)) (iI 0) (tp_s b n p) (-1)) := by
        rw [l_X12_goThrough_32]
        simp (disch := omega) only [qn0, qn1, qn2, qn3, qn4, qn5, qn6, qn7, qn8, qn9, qn10, qn11, qn12, qn13, qn14, qn15, qn16, qn17, qn18, qn24, qn30, qn31, qn32, qn33, qn36, qn38, qn40, qn41, qn42, qn43, qn45, qn47, qn48, qn49, qn50, qn51, qn52, qn53, qn57, qn58, qn59, qn60, qn61, qn62, qn63, qn91, qn93, qn97, qn99, qn100, qn103, qn104, qn112, qn113, qn115, qn116, qn118, qn119, qn121, qn124, qn173, qn177, qn240, qn255, qn295, qn352, qn353, qn533, qn999, qn1000, qn1023, qn6561, qn10000, qn20787, qn1000000, qn252645135, qn858993459, qn1000000000, qn1431655765, q_s1, q_s2, q_s3, q_s4, q_s5, iI_add, iI_sub, iI_mul, iI_neg, q_lt, q_le, q_eq, qz0, qz1, qz2, qz3, if_pos, if_neg, reduceIte, lm_11, e1]
      rw [e5]
      by_cases c2 : tp_l b n p = -1
      · have eg : lr_go b n (d + 1) p l = .inr l := by
          unfold lr_go
          rw [if_neg c, if_pos c2]
        rw [eg]
        refine ⟨fun u h => (by cases h), fun l' h => ?_⟩
        cases h
        refine ⟨tp_s b n p, ?_⟩
        rw [c2] at e2
        unfold gt_T
        simp (disch := omega) only [qn0, qn1, qn2, qn3, qn4, qn5, qn6, qn7, qn8, qn9, qn10, qn11, qn12, qn13, qn14, qn15, qn16, qn17, qn18, qn24, qn30, qn31, qn32, qn33, qn36, qn38, qn40, qn41, qn42, qn43, qn45, qn47, qn48, qn49, qn50, qn51, qn52, qn53, qn57, qn58, qn59, qn60, qn61, qn62, qn63, qn91, qn93, qn97, qn99, qn100, qn103, qn104, qn112, qn113, qn115, qn116, qn118, qn119, qn121, qn124, qn173, qn177, qn240, qn255, qn295, qn352, qn353, qn533, qn999, qn1000, qn1023, qn6561, qn10000, qn20787, qn1000000, qn252645135, qn858993459, qn1000000000, qn1431655765, q_s1, q_s2, q_s3, q_s4, q_s5, iI_add, iI_sub, iI_mul, iI_neg, q_lt, q_le, q_eq, qz0, qz1, qz2, qz3, if_pos, if_neg, reduceIte, lm_11, e2]
      · have eg : lr_go b n (d + 1) p l = .inl (tp_s b n p) := by
          unfold lr_go
          rw [if_neg c, if_neg c2]
        have ef := lm_fails (N := lm_c N (lr_wf kd e l)) (x := iI 0) (a := tp_s b n p)
        rw [eg]
        refine ⟨fun u h => ?_, fun l' h => (by cases h)⟩
        cases h
        refine ⟨hs.2, iI 0, tp_s b n p, lr_wf kd e l, ?_⟩
        unfold gt_T
        simp (disch := omega) only [qn0, qn1, qn2, qn3, qn4, qn5, qn6, qn7, qn8, qn9, qn10, qn11, qn12, qn13, qn14, qn15, qn16, qn17, qn18, qn24, qn30, qn31, qn32, qn33, qn36, qn38, qn40, qn41, qn42, qn43, qn45, qn47, qn48, qn49, qn50, qn51, qn52, qn53, qn57, qn58, qn59, qn60, qn61, qn62, qn63, qn91, qn93, qn97, qn99, qn100, qn103, qn104, qn112, qn113, qn115, qn116, qn118, qn119, qn121, qn124, qn173, qn177, qn240, qn255, qn295, qn352, qn353, qn533, qn999, qn1000, qn1023, qn6561, qn10000, qn20787, qn1000000, qn252645135, qn858993459, qn1000000000, qn1431655765, q_s1, q_s2, q_s3, q_s4, q_s5, iI_add, iI_sub, iI_mul, iI_neg, q_lt, q_le, q_eq, qz0, qz1, qz2, qz3, if_pos, if_neg, reduceIte, lm_11, e2, ef]
/-- the model goes through a LAW -/
theorem m_goT (w : tp_w b n) (x2 x3 : Int32) (K : md_K r o b n (lm_0 M 149 x2 x3 kd)) (he : lm_e e M) (hkd : kd = 121 ∨ kd = 118) : (∀ u, lr_al b n 242 0 [] = .inl u → u ≤ n ∧ ∃ x a' o', f_X12_goThrough M x2 x3 (iI kd) = some (lm_m (lm_c (lm_0 M 149 x2 x3 kd) o') x a' (u : Nat))) ∧ ∀ l, lr_al b n 242 0 [] = .inr l → ∃ a', f_X12_goThrough M x2 x3 (iI kd) = some (lm_m (lm_c (lm_0 M 149 x2 x3 kd) (lr_wf kd e l)) (iI 0) a' (-1)) := by
  have w1 := w.1
  have he0 : lm_e e (lm_0 M 149 x2 x3 kd) := by
    refine ⟨he.1, fun z hz => ?_⟩
    unfold lm_0
    rw [ma_row_ne _ _ _ _ _ (by decide), ma_row_ne _ _ _ _ _ (by decide), ma_row_ne _ _ _ _ _ (by decide), ma_row_ne _ _ _ _ _ (by decide)]
    exact he.2 z hz
  have hk : lm_0 M 149 x2 x3 kd 147 13 = iI kd := gs_up_eq _ _ _ _
  have e0 : f_X12_goThrough M x2 x3 (iI kd) = gs_b1 (f_X12_clause (lm_m (lm_c (lm_0 M 149 x2 x3 kd) none) (iI 0) 0 (-1))) fun M11 => gt_T (l_X12_goThrough_32 x2 x3 (iI kd) gs_FU M11) := by
    rw [gt_eq, m_st1]
    simp only [q_s1, qn0, lm_st]
    rfl
  rw [e0]
  obtain ⟨k1, k2⟩ := m_lcl w K he0 hk hkd none (a := 0) (by omega)
  have hg := lr_cz_g (b := b) w (a := 0) (by omega)
  match hR : lr_cz b n 0 with
  | .inl u =>
    obtain ⟨hu, x', a', k3⟩ := k1 u hR
    rw [lr_al_e hR, k3, q_s1]
    have es : ∀ f, l_X12_goThrough_32 x2 x3 (iI kd) (f + 1) (lm_m (lm_c (lm_0 M 149 x2 x3 kd) none) x' a' (u : Nat)) = some (lm_m (lm_c (lm_0 M 149 x2 x3 kd) none) x' a' (u : Nat)) := fun f => by
      rw [l_X12_goThrough_32]
      simp (disch := omega) only [qn0, qn1, qn2, qn3, qn4, qn5, qn6, qn7, qn8, qn9, qn10, qn11, qn12, qn13, qn14, qn15, qn16, qn17, qn18, qn24, qn30, qn31, qn32, qn33, qn36, qn38, qn40, qn41, qn42, qn43, qn45, qn47, qn48, qn49, qn50, qn51, qn52, qn53, qn57, qn58, qn59, qn60, qn61, qn62, qn63, qn91, qn93, qn97, qn99, qn100, qn103, qn104, qn112, qn113, qn115, qn116, qn118, qn119, qn121, qn124, qn173, qn177, qn240, qn255, qn295, qn352, qn353, qn533, qn999, qn1000, qn1023, qn6561, qn10000, qn20787, qn1000000, qn252645135, qn858993459, qn1000000000, qn1431655765, q_s1, q_s2, q_s3, q_s4, q_s5, iI_add, iI_sub, iI_mul, iI_neg, q_lt, q_le, q_eq, qz0, qz1, qz2, qz3, if_pos, if_neg, reduceIte, lm_11]
    have es' : l_X12_goThrough_32 x2 x3 (iI kd) gs_FU (lm_m (lm_c (lm_0 M 149 x2 x3 kd) none) x' a' (u : Nat)) = some (lm_m (lm_c (lm_0 M 149 x2 x3 kd) none) x' a' (u : Nat)) := es 29999
    rw [es']
    refine ⟨fun u' h => ?_, fun y h => (by cases h)⟩
    cases h
    exact ⟨hu, x', a', _, gt_T0 (by omega)⟩
  | .inr y =>
    have k3 := k2 y hR
    obtain ⟨g1, g2, -⟩ := hg.2 y hR
    rw [lr_al_r hR, k3, q_s1]
    exact m_lpG w K he0 hk hkd x2 x3 (iI kd) 241 gs_FU y.1 ([] ++ [y.2]) g2 (by omega) (by decide)
theorem gt_eq_2 (M : gs_M) (x2 x3 x4 : Int32) : f_X12_goThrough_2 M x2 x3 x4 =
  gs_b1 (f_X12_starts_2 M x2 x3) fun M1 =>
  gs_b1 (some (gs_up M1 147 13 x4)) fun M4 =>
  gs_b1 (some (gs_up M4 147 12 (0 : Int32))) fun M6 =>
  gs_b1 (some (gs_up M6 147 17 (0 : Int32))) fun M8 =>
  gs_b1 (some (gs_up M8 147 14 (0 : Int32))) fun M10 =>
  gs_b1 (f_X12_clause M10) fun M11 =>
  gt_T (l_X12_goThrough_2_32 x2 x3 x4 gs_FU M11) := rfl
set_option maxHeartbeats 20000000 in
theorem m_lpG_2 (w : tp_w b n) (K : md_K r o b n N) (he : lm_e e N) (hk : N 147 13 = iI kd) (hkd : kd = 121 ∨ kd = 118) (x2 x3 x4 : Int32) : ∀ (d f p : Nat) (l : List lr_L), p ≤ n → n < p + d → d < f → (∀ u, lr_go b n d p l = .inl u → u ≤ n ∧ ∃ x a' o', gt_T (l_X12_goThrough_2_32 x2 x3 x4 f (lm_m (lm_c N (lr_wf kd e l)) (iI 0) p (-1))) = some (lm_m (lm_c N o') x a' (u : Nat))) ∧ ∀ l', lr_go b n d p l = .inr l' → ∃ a', gt_T (l_X12_goThrough_2_32 x2 x3 x4 f (lm_m (lm_c N (lr_wf kd e l)) (iI 0) p (-1))) = some (lm_m (lm_c N (lr_wf kd e l')) (iI 0) a' (-1)) := by
  have w1 := w.1
  intro d
  induction d with
  | zero =>
    intro f p l h1 h2
    omega
  | succ d ih =>
    intro f p l h1 h2 h3
    obtain ⟨f, rfl⟩ : ∃ k, f = k + 1 + 1 := ⟨f - 2, by omega⟩
    have K1 := lm_cK (ov := lr_wf kd e l) K
    have hs := tp_s_b (b := b) h1
    have hl := tp_l_b (a := p) w
    have e1 := lm_look (x := iI 0) (t := -1) w K1 h1
    have e2 := lm_look2 (x := iI 0) (t := -1) w K1 h1
    by_cases c : tp_l b n p = 59
    · have eg : lr_go b n (d + 1) p l = lr_al b n (d + 1) (tp_s b n p + 1) l := if_pos c
      rw [eg]
      rw [c] at e1
      obtain ⟨k1, k2⟩ := m_lcl w K he hk hkd (lr_wf kd e l) (a := tp_s b n p + 1) (by omega)
      have hg := lr_cz_g (b := b) w (a := tp_s b n p + 1) (by omega)
      match hR : lr_cz b n (tp_s b n p + 1) with
      | .inl u =>
        obtain ⟨hu, x', a', k3⟩ := k1 u hR
        rw [lr_al_e hR]
        have es : l_X12_goThrough_2_32 x2 x3 x4 (f + 1) (lm_m (lm_c N (lr_wf kd e l)) x' a' (u : Nat)) = some (lm_m (lm_c N (lr_wf kd e l)) x' a' (u : Nat)) := by
          rw [l_X12_goThrough_2_32]
          simp (disch := omega) only [qn0, qn1, qn2, qn3, qn4, qn5, qn6, qn7, qn8, qn9, qn10, qn11, qn12, qn13, qn14, qn15, qn16, qn17, qn18, qn24, qn30, qn31, qn32, qn33, qn36, qn38, qn40, qn41, qn42, qn43, qn45, qn47, qn48, qn49, qn50, qn51, qn52, qn53, qn57, qn58, qn59, qn60, qn61, qn62, qn63, qn91, qn93, qn97, qn99, qn100, qn103, qn104, qn112, qn113, qn115, qn116, qn118, qn119, qn121, qn124, qn173, qn177, qn240, qn255, qn295, qn352, qn353, qn533, qn999, qn1000, qn1023, qn6561, qn10000, qn20787, qn1000000, qn252645135, qn858993459, qn1000000000, qn1431655765, q_s1, q_s2, q_s3, q_s4, q_s5, iI_add, iI_sub, iI_mul, iI_neg, q_lt, q_le, q_eq, qz0, qz1, qz2, qz3, if_pos, if_neg, reduceIte, lm_11]
        have e5 : l_X12_goThrough_2_32 x2 x3 x4 (f + 1 + 1) (lm_m (lm_c N (lr_wf kd e l)) (iI 0) p (-1)) = some (lm_m (lm_c N (lr_wf kd e l)) x' a' (u : Nat)) := by
          rw [l_X12_goThrough_2_32]
          simp (disch := omega) only [qn0, qn1, qn2, qn3, qn4, qn5, qn6, qn7, qn8, qn9, qn10, qn11, qn12, qn13, qn14, qn15, qn16, qn17, qn18, qn24, qn30, qn31, qn32, qn33, qn36, qn38, qn40, qn41, qn42, qn43, qn45, qn47, qn48, qn49, qn50, qn51, qn52, qn53, qn57, qn58, qn59, qn60, qn61, qn62, qn63, qn91, qn93, qn97, qn99, qn100, qn103, qn104, qn112, qn113, qn115, qn116, qn118, qn119, qn121, qn124, qn173, qn177, qn240, qn255, qn295, qn352, qn353, qn533, qn999, qn1000, qn1023, qn6561, qn10000, qn20787, qn1000000, qn252645135, qn858993459, qn1000000000, qn1431655765, q_s1, q_s2, q_s3, q_s4, q_s5, iI_add, iI_sub, iI_mul, iI_neg, q_lt, q_le, q_eq, qz0, qz1, qz2, qz3, if_pos, if_neg, reduceIte, lm_11, e1, lm_10, lm_s, k3, es]
        rw [e5]
        refine ⟨fun u' h => ?_, fun y h => (by cases h)⟩
        cases h
        exact ⟨hu, x', a', _, gt_T0 (by omega)⟩
      | .inr y =>
        have k3 := k2 y hR
        obtain ⟨g1, g2, -⟩ := hg.2 y hR
        rw [lr_al_r hR]
        have e5 : l_X12_goThrough_2_32 x2 x3 x4 (f + 1 + 1) (lm_m (lm_c N (lr_wf kd e l)) (iI 0) p (-1)) = l_X12_goThrough_2_32 x2 x3 x4 (f + 1) (lm_m (lm_c N (lr_wf kd e (l ++ [y.2]))) (iI 0) y.1 (-1)) := by
          rw [l_X12_goThrough_2_32, lr_wf_1]
          simp (disch := omega) only [qn0, qn1, qn2, qn3, qn4, qn5, qn6, qn7, qn8, qn9, qn10, qn11, qn12, qn13, qn14, qn15, qn16, qn17, qn18, qn24, qn30, qn31, qn32, qn33, qn36, qn38, qn40, qn41, qn42, qn43, qn45, qn47, qn48, qn49, qn50, qn51, qn52, qn53, qn57, qn58, qn59, qn60, qn61, qn62, qn63, qn91, qn93, qn97, qn99, qn100, qn103, qn104, qn112, qn113, qn115, qn116, qn118, qn119, qn121, qn124, qn173, qn177, qn240, qn255, qn295, qn352, qn353, qn533, qn999, qn1000, qn1023, qn6561, qn10000, qn20787, qn1000000, qn252645135, qn858993459, qn1000000000, qn1431655765, q_s1, q_s2, q_s3, q_s4, q_s5, iI_add, iI_sub, iI_mul, iI_neg, q_lt, q_le, q_eq, qz0, qz1, qz2, qz3, if_pos, if_neg, reduceIte, lm_11, e1, lm_10, lm_s, k3]
        rw [e5]
        exact ih (f + 1) y.1 (l ++ [y.2]) g2 (by omega) (by omega)
    · have e5 : l_X12_goThrough_2_32 x2 x3 x4 (f + 1 + 1) (lm_m (lm_c N (lr_wf kd e l)) (iI 0) p (-1)) = some (lm_m (lm_c N (lr_wf kd e l)) (iI 0) (tp_s b n p) (-1)) := by
        rw [l_X12_goThrough_2_32]
        simp (disch := omega) only [qn0, qn1, qn2, qn3, qn4, qn5, qn6, qn7, qn8, qn9, qn10, qn11, qn12, qn13, qn14, qn15, qn16, qn17, qn18, qn24, qn30, qn31, qn32, qn33, qn36, qn38, qn40, qn41, qn42, qn43, qn45, qn47, qn48, qn49, qn50, qn51, qn52, qn53, qn57, qn58, qn59, qn60, qn61, qn62, qn63, qn91, qn93, qn97, qn99, qn100, qn103, qn104, qn112, qn113, qn115, qn116, qn118, qn119, qn121, qn124, qn173, qn177, qn240, qn255, qn295, qn352, qn353, qn533, qn999, qn1000, qn1023, qn6561, qn10000, qn20787, qn1000000, qn252645135, qn858993459, qn1000000000, qn1431655765, q_s1, q_s2, q_s3, q_s4, q_s5, iI_add, iI_sub, iI_mul, iI_neg, q_lt, q_le, q_eq, qz0, qz1, qz2, qz3, if_pos, if_neg, reduceIte, lm_11, e1]
      rw [e5]
      by_cases c2 : tp_l b n p = -1
      · have eg : lr_go b n (d + 1) p l = .inr l := by
          unfold lr_go
          rw [if_neg c, if_pos c2]
        rw [eg]
        refine ⟨fun u h => (by cases h), fun l' h => ?_⟩
        cases h
        refine ⟨tp_s b n p, ?_⟩
        rw [c2] at e2
        unfold gt_T
        simp (disch := omega) only [qn0, qn1, qn2, qn3, qn4, qn5, qn6, qn7, qn8, qn9, qn10, qn11, qn12, qn13, qn14, qn15, qn16, qn17, qn18, qn24, qn30, qn31, qn32, qn33, qn36, qn38, qn40, qn41, qn42, qn43, qn45, qn47, qn48, qn49, qn50, qn51, qn52, qn53, qn57, qn58, qn59, qn60, qn61, qn62, qn63, qn91, qn93, qn97, qn99, qn100, qn103, qn104, qn112, qn113, qn115, qn116, qn118, qn119, qn121, qn124, qn173, qn177, qn240, qn255, qn295, qn352, qn353, qn533, qn999, qn1000, qn1023, qn6561, qn10000, qn20787, qn1000000, qn252645135, qn858993459, qn1000000000, qn1431655765, q_s1, q_s2, q_s3, q_s4, q_s5, iI_add, iI_sub, iI_mul, iI_neg, q_lt, q_le, q_eq, qz0, qz1, qz2, qz3, if_pos, if_neg, reduceIte, lm_11, e2]
      · have eg : lr_go b n (d + 1) p l = .inl (tp_s b n p) := by
          unfold lr_go
          rw [if_neg c, if_neg c2]
        have ef := lm_fails (N := lm_c N (lr_wf kd e l)) (x := iI 0) (a := tp_s b n p)
        rw [eg]
        refine ⟨fun u h => ?_, fun l' h => (by cases h)⟩
        cases h
        refine ⟨hs.2, iI 0, tp_s b n p, lr_wf kd e l, ?_⟩
        unfold gt_T
        simp (disch := omega) only [qn0, qn1, qn2, qn3, qn4, qn5, qn6, qn7, qn8, qn9, qn10, qn11, qn12, qn13, qn14, qn15, qn16, qn17, qn18, qn24, qn30, qn31, qn32, qn33, qn36, qn38, qn40, qn41, qn42, qn43, qn45, qn47, qn48, qn49, qn50, qn51, qn52, qn53, qn57, qn58, qn59, qn60, qn61, qn62, qn63, qn91, qn93, qn97, qn99, qn100, qn103, qn104, qn112, qn113, qn115, qn116, qn118, qn119, qn121, qn124, qn173, qn177, qn240, qn255, qn295, qn352, qn353, qn533, qn999, qn1000, qn1023, qn6561, qn10000, qn20787, qn1000000, qn252645135, qn858993459, qn1000000000, qn1431655765, q_s1, q_s2, q_s3, q_s4, q_s5, iI_add, iI_sub, iI_mul, iI_neg, q_lt, q_le, q_eq, qz0, qz1, qz2, qz3, if_pos, if_neg, reduceIte, lm_11, e2, ef]
/-- the model goes through a LAW -/
theorem m_goT_2 (w : tp_w b n) (x2 x3 : Int32) (K : md_K r o b n (lm_0 M 148 x2 x3 kd)) (he : lm_e e M) (hkd : kd = 121 ∨ kd = 118) : (∀ u, lr_al b n 242 0 [] = .inl u → u ≤ n ∧ ∃ x a' o', f_X12_goThrough_2 M x2 x3 (iI kd) = some (lm_m (lm_c (lm_0 M 148 x2 x3 kd) o') x a' (u : Nat))) ∧ ∀ l, lr_al b n 242 0 [] = .inr l → ∃ a', f_X12_goThrough_2 M x2 x3 (iI kd) = some (lm_m (lm_c (lm_0 M 148 x2 x3 kd) (lr_wf kd e l)) (iI 0) a' (-1)) := by
  have w1 := w.1
  have he0 : lm_e e (lm_0 M 148 x2 x3 kd) := by
    refine ⟨he.1, fun z hz => ?_⟩
    unfold lm_0
    rw [ma_row_ne _ _ _ _ _ (by decide), ma_row_ne _ _ _ _ _ (by decide), ma_row_ne _ _ _ _ _ (by decide), ma_row_ne _ _ _ _ _ (by decide)]
    exact he.2 z hz
  have hk : lm_0 M 148 x2 x3 kd 147 13 = iI kd := gs_up_eq _ _ _ _
  have e0 : f_X12_goThrough_2 M x2 x3 (iI kd) = gs_b1 (f_X12_clause (lm_m (lm_c (lm_0 M 148 x2 x3 kd) none) (iI 0) 0 (-1))) fun M11 => gt_T (l_X12_goThrough_2_32 x2 x3 (iI kd) gs_FU M11) := by
    rw [gt_eq_2, m_st2]
    simp only [q_s1, qn0, lm_st]
    rfl
  rw [e0]
  obtain ⟨k1, k2⟩ := m_lcl w K he0 hk hkd none (a := 0) (by omega)
  have hg := lr_cz_g (b := b) w (a := 0) (by omega)
  match hR : lr_cz b n 0 with
  | .inl u =>
    obtain ⟨hu, x', a', k3⟩ := k1 u hR
    rw [lr_al_e hR, k3, q_s1]
    have es : ∀ f, l_X12_goThrough_2_32 x2 x3 (iI kd) (f + 1) (lm_m (lm_c (lm_0 M 148 x2 x3 kd) none) x' a' (u : Nat)) = some (lm_m (lm_c (lm_0 M 148 x2 x3 kd) none) x' a' (u : Nat)) := fun f => by
      rw [l_X12_goThrough_2_32]
      simp (disch := omega) only [qn0, qn1, qn2, qn3, qn4, qn5, qn6, qn7, qn8, qn9, qn10, qn11, qn12, qn13, qn14, qn15, qn16, qn17, qn18, qn24, qn30, qn31, qn32, qn33, qn36, qn38, qn40, qn41, qn42, qn43, qn45, qn47, qn48, qn49, qn50, qn51, qn52, qn53, qn57, qn58, qn59, qn60, qn61, qn62, qn63, qn91, qn93, qn97, qn99, qn100, qn103, qn104, qn112, qn113, qn115, qn116, qn118, qn119, qn121, qn124, qn173, qn177, qn240, qn255, qn295, qn352, qn353, qn533, qn999, qn1000, qn1023, qn6561, qn10000, qn20787, qn1000000, qn252645135, qn858993459, qn1000000000, qn1431655765, q_s1, q_s2, q_s3, q_s4, q_s5, iI_add, iI_sub, iI_mul, iI_neg, q_lt, q_le, q_eq, qz0, qz1, qz2, qz3, if_pos, if_neg, reduceIte, lm_11]
    have es' : l_X12_goThrough_2_32 x2 x3 (iI kd) gs_FU (lm_m (lm_c (lm_0 M 148 x2 x3 kd) none) x' a' (u : Nat)) = some (lm_m (lm_c (lm_0 M 148 x2 x3 kd) none) x' a' (u : Nat)) := es 29999
    rw [es']
    refine ⟨fun u' h => ?_, fun y h => (by cases h)⟩
    cases h
    exact ⟨hu, x', a', _, gt_T0 (by omega)⟩
  | .inr y =>
    have k3 := k2 y hR
    obtain ⟨g1, g2, -⟩ := hg.2 y hR
    rw [lr_al_r hR, k3, q_s1]
    exact m_lpG_2 w K he0 hk hkd x2 x3 (iI kd) 241 gs_FU y.1 ([] ++ [y.2]) g2 (by omega) (by decide)
theorem iv_lm (M : gs_M) (r : Nat) (x2 x3 : Int32) (kd : Int) (ov : Option Int) (x : Int32) (a : Nat) (t : Int) : iv_ag M (lm_m (lm_c (lm_0 M r x2 x3 kd) ov) x a t) :=
  ((((((((iv_ag.rf.up (i := 147) (k := 5) _ rfl).up (i := 147) (k := 8) _ rfl).up (i := 147) (k := 9) _ rfl).up (i := 147) (k := 13) _ rfl).up (i := 147) (k := 17) _ rfl).up (i := 147) (k := 14) _ rfl).up (i := 147) (k := 12) _ rfl).up (i := 147) (k := 10) _ rfl).up (i := 147) (k := 11) _ rfl
end Law24
