/-! a clause read by the model -/
def lm_f : Option Int → Int
  | none => 0
  | some _ => 1
def lm_v : Option Int → Int
  | none => 0
  | some v => v
def lm_c (N : gs_M) (o : Option Int) : gs_M := gs_up (gs_up N 147 17 (iI (lm_f o))) 147 14 (iI (lm_v o))
def lm_nx (z kd c v : Int) : Option Int → Option Int
  | some w => some w
  | none => if z = kd ∧ c ≠ 0 then some v else none
def lr_nx (kd : Int) (e : Nat → Int) (o : Option Int) (x : lr_L) : Option Int := lm_nx x.1 kd (x.2.2.1 e) (x.2.2.2.2 e) o
def cz_F (v1 v17 v24 : Int32) (M25 : gs_M) : Option gs_M :=
  if (M25 147 11) = (-1 : Int32) then
  if (M25 147 17) = (0 : Int32) then
  if v1 = (M25 147 13) then
  if v17 = (0 : Int32) then
  some M25
  else
  gs_b1 (some (gs_up M25 147 17 (1 : Int32))) fun M32 =>
  gs_b1 (some (gs_up M32 147 14 v24)) fun M34 =>
  some M34
  else
  some M25
  else
  some M25
  else
  some M25
def cz_G (v1 v24 : Int32) (M25 : gs_M) : Option gs_M :=
  if (M25 147 11) = (-1 : Int32) then
  if (M25 147 17) = (0 : Int32) then
  if v1 = (M25 147 13) then
  gs_b1 (some (gs_up M25 147 17 (1 : Int32))) fun M32 =>
  gs_b1 (some (gs_up M32 147 14 v24)) fun M34 =>
  some M34
  else
  some M25
  else
  some M25
  else
  some M25
def cz_R (v1 v17 : Int32) (M18 : gs_M) : Option gs_M :=
  gs_b2 (f_X12_takes M18 (63 : Int32)) fun v20 M21 =>
  if v20 = (0 : Int32) then
  some M21
  else
  gs_b2 ((g_1 64) 2 0 0 M21) fun v24 M25 => cz_F v1 v17 v24 M25
def cz_B (v1 : Int32) (M10 : gs_M) : Option gs_M :=
  gs_b2 (f_X12_look M10) fun v13 M14 =>
  if v13 = (33 : Int32) then
  gs_b2 ((g_1 64) 6 (0 : Int32) (0 : Int32) M14) fun v17 M18 => cz_R v1 v17 M18
  else
  if v13 = (40 : Int32) then
  gs_b2 ((g_1 64) 6 (0 : Int32) (0 : Int32) M14) fun v17 M18 => cz_R v1 v17 M18
  else
  gs_b2 ((g_1 64) 2 0 0 M14) fun v36 M37 =>
  if (M37 147 11) = (-1 : Int32) then
  gs_b2 (f_X12_look M37) fun v48 M49 =>
  gs_b1 (f_X12_isSign v48) fun v51 =>
  if v51 = (0 : Int32) then
  cz_G v1 v36 M49
  else
  gs_b2 ((g_1 64) 6 (1 : Int32) v36 M49) fun v62 M63 => cz_R v1 v62 M63
  else
  cz_G v1 v36 M37
theorem cz_eq (M : gs_M) : f_X12_clause M = gs_b2 (f_X12_look M) fun v1 M2 =>
  gs_b1 (f_X12_isAmong v1) fun v4 =>
  if v4 = (0 : Int32) then
  gs_b2 (f_X12_fails M2) fun v98 M99 =>
  some M99
  else
  gs_b1 (some (gs_up M2 147 10 ((M2 147 10) + (1 : Int32)))) fun M8 =>
  gs_b2 (f_X12_takes M8 (58 : Int32)) fun v9 M10 =>
  if v9 = (0 : Int32) then
  some M10
  else
  cz_B v1 M10 := rfl
section Law23
variable {b : Nat → Int} {n r o a p : Nat} {t : Int} {N : gs_M} {e : Nat → Int} {ov : Option Int} {z kd c v : Int} {x : Int32} {q : lr_Q}
theorem lm_c17 : lm_m (lm_c N ov) x a t 147 17 = iI (lm_f ov) := by
  unfold lm_m lm_c
  rw [md_mc (by decide) (by decide), ma_cell_ne _ _ _ _ _ _ (by decide), ma_cell_ne _ _ _ _ _ _ (by decide), gs_up_eq]
theorem lm_c13 : lm_m (lm_c N ov) x a t 147 13 = N 147 13 := by
  unfold lm_m lm_c
  rw [md_mc (by decide) (by decide), ma_cell_ne _ _ _ _ _ _ (by decide), ma_cell_ne _ _ _ _ _ _ (by decide), ma_cell_ne _ _ _ _ _ _ (by decide)]
theorem lm_w : gs_up (gs_up (lm_m (lm_c N ov) x a t) 147 17 (iI 1)) 147 14 (iI v) = lm_m (lm_c N (some v)) x a t := by
  funext y k
  unfold lm_m md_m lm_c
  simp only [gs_up_at, lm_f, lm_v]
  repeat' split
  all_goals first
    | rfl
    | (exfalso; omega)
theorem lm_cK (K : md_K r o b n N) : md_K r o b n (lm_c N ov) := (K.up _ ⟨by decide, by decide, Or.inr ⟨by decide, by decide, by decide⟩⟩).up _ ⟨by decide, by decide, Or.inr ⟨by decide, by decide, by decide⟩⟩
theorem lm_ce (he : lm_e e N) : lm_e e (lm_c N ov) := by
  refine ⟨he.1, fun z hz => ?_⟩
  unfold lm_c
  rw [ma_row_ne _ _ _ _ _ (by decide), ma_row_ne _ _ _ _ _ (by decide)]
  exact he.2 z hz
theorem cz_F0 {v1 v17 v24 : Int32} {u : Nat} (hu : u ≤ 240) : cz_F v1 v17 v24 (lm_m N x a (u : Nat)) = some (lm_m N x a (u : Nat)) := by
  unfold cz_F
  simp (disch := omega) only [qn0, qn1, qn2, qn3, qn4, qn5, qn6, qn7, qn8, qn9, qn10, qn11, qn12, qn13, qn14, qn15, qn16, qn17, qn18, qn24, qn30, qn31, qn32, qn33, qn36, qn38, qn40, qn41, qn42, qn43, qn45, qn47, qn48, qn49, qn50, qn51, qn52, qn53, qn57, qn58, qn59, qn60, qn61, qn62, qn63, qn91, qn93, qn97, qn99, qn100, qn103, qn104, qn112, qn113, qn115, qn116, qn118, qn119, qn121, qn124, qn173, qn177, qn240, qn255, qn295, qn352, qn353, qn533, qn999, qn1000, qn1023, qn6561, qn10000, qn20787, qn1000000, qn252645135, qn858993459, qn1000000000, qn1431655765, q_s1, q_s2, q_s3, q_s4, q_s5, iI_add, iI_sub, iI_mul, iI_neg, q_lt, q_le, q_eq, qz0, qz1, qz2, qz3, if_pos, if_neg, reduceIte, lm_11]
theorem cz_G0 {v1 v24 : Int32} {u : Nat} (hu : u ≤ 240) : cz_G v1 v24 (lm_m N x a (u : Nat)) = some (lm_m N x a (u : Nat)) := by
  unfold cz_G
  simp (disch := omega) only [qn0, qn1, qn2, qn3, qn4, qn5, qn6, qn7, qn8, qn9, qn10, qn11, qn12, qn13, qn14, qn15, qn16, qn17, qn18, qn24, qn30, qn31, qn32, qn33, qn36, qn38, qn40, qn41, qn42, qn43, qn45, qn47, qn48, qn49, qn50, qn51, qn52, qn53, qn57, qn58, qn59, qn60, qn61, qn62, qn63, qn91, qn93, qn97, qn99, qn100, qn103, qn104, qn112, qn113, qn115, qn116, qn118, qn119, qn121, qn124, qn173, qn177, qn240, qn255, qn295, qn352, qn353, qn533, qn999, qn1000, qn1023, qn6561, qn10000, qn20787, qn1000000, qn252645135, qn858993459, qn1000000000, qn1431655765, q_s1, q_s2, q_s3, q_s4, q_s5, iI_add, iI_sub, iI_mul, iI_neg, q_lt, q_le, q_eq, qz0, qz1, qz2, qz3, if_pos, if_neg, reduceIte, lm_11]
theorem cz_R0 {v1 v17 : Int32} {u : Nat} (hu : u ≤ 240) : cz_R v1 v17 (lm_m N x a (u : Nat)) = some (lm_m N x a (u : Nat)) := by
  have e1 := lm_takes1 (N := N) (x := x) (a := a) (t := (u : Int)) (by omega) (iI 63)
  unfold cz_R
  simp (disch := omega) only [qn0, qn1, qn2, qn3, qn4, qn5, qn6, qn7, qn8, qn9, qn10, qn11, qn12, qn13, qn14, qn15, qn16, qn17, qn18, qn24, qn30, qn31, qn32, qn33, qn36, qn38, qn40, qn41, qn42, qn43, qn45, qn47, qn48, qn49, qn50, qn51, qn52, qn53, qn57, qn58, qn59, qn60, qn61, qn62, qn63, qn91, qn93, qn97, qn99, qn100, qn103, qn104, qn112, qn113, qn115, qn116, qn118, qn119, qn121, qn124, qn173, qn177, qn240, qn255, qn295, qn352, qn353, qn533, qn999, qn1000, qn1023, qn6561, qn10000, qn20787, qn1000000, qn252645135, qn858993459, qn1000000000, qn1431655765, q_s1, q_s2, q_s3, q_s4, q_s5, iI_add, iI_sub, iI_mul, iI_neg, q_lt, q_le, q_eq, qz0, qz1, qz2, qz3, if_pos, if_neg, reduceIte, e1]
theorem cz_F1 (hk : N 147 13 = iI kd) (hkd : kd = 121 ∨ kd = 118) (hz : z = 121 ∨ z = 118) (hc : c = 0 ∨ c = 1) : cz_F (iI z) (iI c) (iI v) (lm_m (lm_c N ov) x a (-1)) = some (lm_m (lm_c N (lm_nx z kd c v ov)) x a (-1)) := by
  unfold cz_F
  match ov with
  | some w =>
    have e1 : lm_nx z kd c v (some w) = some w := rfl
    have e2 : lm_m (lm_c N (some w)) x a (-1) 147 17 = iI 1 := lm_c17
    rw [e1]
    simp (disch := omega) only [qn0, qn1, qn2, qn3, qn4, qn5, qn6, qn7, qn8, qn9, qn10, qn11, qn12, qn13, qn14, qn15, qn16, qn17, qn18, qn24, qn30, qn31, qn32, qn33, qn36, qn38, qn40, qn41, qn42, qn43, qn45, qn47, qn48, qn49, qn50, qn51, qn52, qn53, qn57, qn58, qn59, qn60, qn61, qn62, qn63, qn91, qn93, qn97, qn99, qn100, qn103, qn104, qn112, qn113, qn115, qn116, qn118, qn119, qn121, qn124, qn173, qn177, qn240, qn255, qn295, qn352, qn353, qn533, qn999, qn1000, qn1023, qn6561, qn10000, qn20787, qn1000000, qn252645135, qn858993459, qn1000000000, qn1431655765, q_s1, q_s2, q_s3, q_s4, q_s5, iI_add, iI_sub, iI_mul, iI_neg, q_lt, q_le, q_eq, qz0, qz1, qz2, qz3, if_pos, if_neg, reduceIte, lm_11, e2]
  | none =>
    have e2 : lm_m (lm_c N none) x a (-1) 147 17 = iI 0 := lm_c17
    by_cases ck : z = kd ∧ c ≠ 0
    · have e1 : lm_nx z kd c v none = some v := if_pos ck
      rw [e1]
      simp (disch := omega) only [qn0, qn1, qn2, qn3, qn4, qn5, qn6, qn7, qn8, qn9, qn10, qn11, qn12, qn13, qn14, qn15, qn16, qn17, qn18, qn24, qn30, qn31, qn32, qn33, qn36, qn38, qn40, qn41, qn42, qn43, qn45, qn47, qn48, qn49, qn50, qn51, qn52, qn53, qn57, qn58, qn59, qn60, qn61, qn62, qn63, qn91, qn93, qn97, qn99, qn100, qn103, qn104, qn112, qn113, qn115, qn116, qn118, qn119, qn121, qn124, qn173, qn177, qn240, qn255, qn295, qn352, qn353, qn533, qn999, qn1000, qn1023, qn6561, qn10000, qn20787, qn1000000, qn252645135, qn858993459, qn1000000000, qn1431655765, q_s1, q_s2, q_s3, q_s4, q_s5, iI_add, iI_sub, iI_mul, iI_neg, q_lt, q_le, q_eq, qz0, qz1, qz2, qz3, if_pos, if_neg, reduceIte, lm_11, e2, lm_c13, hk, lm_w]
    · have e1 : lm_nx z kd c v none = none := if_neg ck
      rw [e1]
      by_cases c1 : z = kd
      · have c2 : c = 0 := by
          rcases hc with h | h
          · exact h
          · exact absurd ⟨c1, by omega⟩ ck
        simp (disch := omega) only [qn0, qn1, qn2, qn3, qn4, qn5, qn6, qn7, qn8, qn9, qn10, qn11, qn12, qn13, qn14, qn15, qn16, qn17, qn18, qn24, qn30, qn31, qn32, qn33, qn36, qn38, qn40, qn41, qn42, qn43, qn45, qn47, qn48, qn49, qn50, qn51, qn52, qn53, qn57, qn58, qn59, qn60, qn61, qn62, qn63, qn91, qn93, qn97, qn99, qn100, qn103, qn104, qn112, qn113, qn115, qn116, qn118, qn119, qn121, qn124, qn173, qn177, qn240, qn255, qn295, qn352, qn353, qn533, qn999, qn1000, qn1023, qn6561, qn10000, qn20787, qn1000000, qn252645135, qn858993459, qn1000000000, qn1431655765, q_s1, q_s2, q_s3, q_s4, q_s5, iI_add, iI_sub, iI_mul, iI_neg, q_lt, q_le, q_eq, qz0, qz1, qz2, qz3, if_pos, if_neg, reduceIte, lm_11, e2, lm_c13, hk]
      · simp (disch := omega) only [qn0, qn1, qn2, qn3, qn4, qn5, qn6, qn7, qn8, qn9, qn10, qn11, qn12, qn13, qn14, qn15, qn16, qn17, qn18, qn24, qn30, qn31, qn32, qn33, qn36, qn38, qn40, qn41, qn42, qn43, qn45, qn47, qn48, qn49, qn50, qn51, qn52, qn53, qn57, qn58, qn59, qn60, qn61, qn62, qn63, qn91, qn93, qn97, qn99, qn100, qn103, qn104, qn112, qn113, qn115, qn116, qn118, qn119, qn121, qn124, qn173, qn177, qn240, qn255, qn295, qn352, qn353, qn533, qn999, qn1000, qn1023, qn6561, qn10000, qn20787, qn1000000, qn252645135, qn858993459, qn1000000000, qn1431655765, q_s1, q_s2, q_s3, q_s4, q_s5, iI_add, iI_sub, iI_mul, iI_neg, q_lt, q_le, q_eq, qz0, qz1, qz2, qz3, if_pos, if_neg, reduceIte, lm_11, e2, lm_c13, hk]
theorem cz_G1 (hk : N 147 13 = iI kd) (hkd : kd = 121 ∨ kd = 118) (hz : z = 121 ∨ z = 118) : cz_G (iI z) (iI v) (lm_m (lm_c N ov) x a (-1)) = some (lm_m (lm_c N (lm_nx z kd 1 v ov)) x a (-1)) := by
  unfold cz_G
  match ov with
  | some w =>
    have e1 : lm_nx z kd 1 v (some w) = some w := rfl
    have e2 : lm_m (lm_c N (some w)) x a (-1) 147 17 = iI 1 := lm_c17
    rw [e1]
    simp (disch := omega) only [qn0, qn1, qn2, qn3, qn4, qn5, qn6, qn7, qn8, qn9, qn10, qn11, qn12, qn13, qn14, qn15, qn16, qn17, qn18, qn24, qn30, qn31, qn32, qn33, qn36, qn38, qn40, qn41, qn42, qn43, qn45, qn47, qn48, qn49, qn50, qn51, qn52, qn53, qn57, qn58, qn59, qn60, qn61, qn62, qn63, qn91, qn93, qn97, qn99, qn100, qn103, qn104, qn112, qn113, qn115, qn116, qn118, qn119, qn121, qn124, qn173, qn177, qn240, qn255, qn295, qn352, qn353, qn533, qn999, qn1000, qn1023, qn6561, qn10000, qn20787, qn1000000, qn252645135, qn858993459, qn1000000000, qn1431655765, q_s1, q_s2, q_s3, q_s4, q_s5, iI_add, iI_sub, iI_mul, iI_neg, q_lt, q_le, q_eq, qz0, qz1, qz2, qz3, if_pos, if_neg, reduceIte, lm_11, e2]
  | none =>
    have e2 : lm_m (lm_c N none) x a (-1) 147 17 = iI 0 := lm_c17
    by_cases ck : z = kd
    · have e1 : lm_nx z kd 1 v none = some v := if_pos ⟨ck, by decide⟩
      rw [e1]
      simp (disch := omega) only [qn0, qn1, qn2, qn3, qn4, qn5, qn6, qn7, qn8, qn9, qn10, qn11, qn12, qn13, qn14, qn15, qn16, qn17, qn18, qn24, qn30, qn31, qn32, qn33, qn36, qn38, qn40, qn41, qn42, qn43, qn45, qn47, qn48, qn49, qn50, qn51, qn52, qn53, qn57, qn58, qn59, qn60, qn61, qn62, qn63, qn91, qn93, qn97, qn99, qn100, qn103, qn104, qn112, qn113, qn115, qn116, qn118, qn119, qn121, qn124, qn173, qn177, qn240, qn255, qn295, qn352, qn353, qn533, qn999, qn1000, qn1023, qn6561, qn10000, qn20787, qn1000000, qn252645135, qn858993459, qn1000000000, qn1431655765, q_s1, q_s2, q_s3, q_s4, q_s5, iI_add, iI_sub, iI_mul, iI_neg, q_lt, q_le, q_eq, qz0, qz1, qz2, qz3, if_pos, if_neg, reduceIte, lm_11, e2, lm_c13, hk, lm_w]
    · have e1 : lm_nx z kd 1 v none = none := if_neg (fun h => ck h.1)
      rw [e1]
      simp (disch := omega) only [qn0, qn1, qn2, qn3, qn4, qn5, qn6, qn7, qn8, qn9, qn10, qn11, qn12, qn13, qn14, qn15, qn16, qn17, qn18, qn24, qn30, qn31, qn32, qn33, qn36, qn38, qn40, qn41, qn42, qn43, qn45, qn47, qn48, qn49, qn50, qn51, qn52, qn53, qn57, qn58, qn59, qn60, qn61, qn62, qn63, qn91, qn93, qn97, qn99, qn100, qn103, qn104, qn112, qn113, qn115, qn116, qn118, qn119, qn121, qn124, qn173, qn177, qn240, qn255, qn295, qn352, qn353, qn533, qn999, qn1000, qn1023, qn6561, qn10000, qn20787, qn1000000, qn252645135, qn858993459, qn1000000000, qn1431655765, q_s1, q_s2, q_s3, q_s4, q_s5, iI_add, iI_sub, iI_mul, iI_neg, q_lt, q_le, q_eq, qz0, qz1, qz2, qz3, if_pos, if_neg, reduceIte, lm_11, e2, lm_c13, hk]
theorem m_ruling (w : tp_w b n) (K : md_K r o b n N) (he : lm_e e N) (hk : N 147 13 = iI kd) (hkd : kd = 121 ∨ kd = 118) (hz : z = 121 ∨ z = 118) (ov : Option Int) (h1 : q.1 ≤ n) (hq : q.2.2 e = 0 ∨ q.2.2 e = 1) : (∀ u, lr_ru b n z q = .inl u → u ≤ n ∧ ∃ x a', cz_R (iI z) (iI (q.2.2 e)) (lm_m (lm_c N ov) (iI 0) q.1 (-1)) = some (lm_m (lm_c N ov) x a' (u : Nat))) ∧ ∀ y, lr_ru b n z q = .inr y → cz_R (iI z) (iI (q.2.2 e)) (lm_m (lm_c N ov) (iI 0) q.1 (-1)) = some (lm_m (lm_c N (lr_nx kd e ov y.2)) (iI 0) y.1 (-1)) := by
  have w1 := w.1
  have K1 := lm_cK (ov := ov) K
  have he1 := lm_ce (ov := ov) he
  have hs := tp_s_b (b := b) h1
  have hl := tp_l_b (a := q.1) w
  have e1 := lm_takes (x := iI 0) w K1 h1 (c := 63) (by decide)
  by_cases c : tp_l b n q.1 = 63
  · rw [if_pos c] at e1
    obtain ⟨k1, k2⟩ := m_S w K1 he1 6 0 64 rfl (by decide) (tp_s b n q.1 + 1) (by omega)
    have hg := lr_S_g (b := b) w 6 (tp_s b n q.1 + 1) (by omega)
    match hR : lr_S b n 6 (tp_s b n q.1 + 1) with
    | .inl u =>
      obtain ⟨v', x', a', -, k3⟩ := k1 u hR
      have k3' : g_1 64 2 (iI 0) (iI 0) (lm_m (lm_c N ov) (iI 0) (tp_s b n q.1 + 1) (-1)) = some (v', lm_m (lm_c N ov) x' a' (u : Nat)) := k3
      have hu := hg.1 u hR
      have ee : lr_ru b n z q = .inl u := by
        unfold lr_ru
        rw [if_pos c, hR]
      rw [ee]
      refine ⟨fun u' h => ?_, fun y h => (by cases h)⟩
      cases h
      have e3 := cz_F0 (N := lm_c N ov) (x := x') (a := a') (v1 := iI z) (v17 := iI (q.2.2 e)) (v24 := v') (u := u) (by omega)
      refine ⟨hu, x', a', ?_⟩
      unfold cz_R
      simp (disch := omega) only [qn0, qn1, qn2, qn3, qn4, qn5, qn6, qn7, qn8, qn9, qn10, qn11, qn12, qn13, qn14, qn15, qn16, qn17, qn18, qn24, qn30, qn31, qn32, qn33, qn36, qn38, qn40, qn41, qn42, qn43, qn45, qn47, qn48, qn49, qn50, qn51, qn52, qn53, qn57, qn58, qn59, qn60, qn61, qn62, qn63, qn91, qn93, qn97, qn99, qn100, qn103, qn104, qn112, qn113, qn115, qn116, qn118, qn119, qn121, qn124, qn173, qn177, qn240, qn255, qn295, qn352, qn353, qn533, qn999, qn1000, qn1023, qn6561, qn10000, qn20787, qn1000000, qn252645135, qn858993459, qn1000000000, qn1431655765, q_s1, q_s2, q_s3, q_s4, q_s5, iI_add, iI_sub, iI_mul, iI_neg, q_lt, q_le, q_eq, qz0, qz1, qz2, qz3, if_pos, if_neg, reduceIte, e1, k3', e3]
    | .inr y =>
      have k3' : g_1 64 2 (iI 0) (iI 0) (lm_m (lm_c N ov) (iI 0) (tp_s b n q.1 + 1) (-1)) = some (iI (y.2.2 e), lm_m (lm_c N ov) (iI 0) y.1 (-1)) := k2 y hR
      have ee : lr_ru b n z q = .inr (y.1, z, q.2.1, q.2.2, y.2.1, y.2.2) := by
        unfold lr_ru
        rw [if_pos c, hR]
      rw [ee]
      refine ⟨fun u' h => (by cases h), fun y' h => ?_⟩
      cases h
      have e3 := cz_F1 (N := N) (ov := ov) (x := iI 0) (a := y.1) (v := y.2.2 e) hk hkd hz hq
      unfold cz_R
      simp (disch := omega) only [qn0, qn1, qn2, qn3, qn4, qn5, qn6, qn7, qn8, qn9, qn10, qn11, qn12, qn13, qn14, qn15, qn16, qn17, qn18, qn24, qn30, qn31, qn32, qn33, qn36, qn38, qn40, qn41, qn42, qn43, qn45, qn47, qn48, qn49, qn50, qn51, qn52, qn53, qn57, qn58, qn59, qn60, qn61, qn62, qn63, qn91, qn93, qn97, qn99, qn100, qn103, qn104, qn112, qn113, qn115, qn116, qn118, qn119, qn121, qn124, qn173, qn177, qn240, qn255, qn295, qn352, qn353, qn533, qn999, qn1000, qn1023, qn6561, qn10000, qn20787, qn1000000, qn252645135, qn858993459, qn1000000000, qn1431655765, q_s1, q_s2, q_s3, q_s4, q_s5, iI_add, iI_sub, iI_mul, iI_neg, q_lt, q_le, q_eq, qz0, qz1, qz2, qz3, if_pos, if_neg, reduceIte, e1, k3', e3]
      rfl
  · rw [if_neg c] at e1
    have ee : lr_ru b n z q = .inl (tp_s b n q.1) := by
      unfold lr_ru
      rw [if_neg c]
    rw [ee]
    refine ⟨fun u' h => ?_, fun y h => (by cases h)⟩
    cases h
    refine ⟨hs.2, iI 0, tp_s b n q.1, ?_⟩
    unfold cz_R
    simp (disch := omega) only [qn0, qn1, qn2, qn3, qn4, qn5, qn6, qn7, qn8, qn9, qn10, qn11, qn12, qn13, qn14, qn15, qn16, qn17, qn18, qn24, qn30, qn31, qn32, qn33, qn36, qn38, qn40, qn41, qn42, qn43, qn45, qn47, qn48, qn49, qn50, qn51, qn52, qn53, qn57, qn58, qn59, qn60, qn61, qn62, qn63, qn91, qn93, qn97, qn99, qn100, qn103, qn104, qn112, qn113, qn115, qn116, qn118, qn119, qn121, qn124, qn173, qn177, qn240, qn255, qn295, qn352, qn353, qn533, qn999, qn1000, qn1023, qn6561, qn10000, qn20787, qn1000000, qn252645135, qn858993459, qn1000000000, qn1431655765, q_s1, q_s2, q_s3, q_s4, q_s5, iI_add, iI_sub, iI_mul, iI_neg, q_lt, q_le, q_eq, qz0, qz1, qz2, qz3, if_pos, if_neg, reduceIte, e1]
set_option maxHeartbeats 20000000 in
theorem m_body (w : tp_w b n) (K : md_K r o b n N) (he : lm_e e N) (hk : N 147 13 = iI kd) (hkd : kd = 121 ∨ kd = 118) (hz : z = 121 ∨ z = 118) (ov : Option Int) (hp : p ≤ n) : (∀ u, lr_bo b n z p = .inl u → u ≤ n ∧ ∃ x a', cz_B (iI z) (lm_m (lm_c N ov) (iI 0) p (-1)) = some (lm_m (lm_c N ov) x a' (u : Nat))) ∧ ∀ y, lr_bo b n z p = .inr y → cz_B (iI z) (lm_m (lm_c N ov) (iI 0) p (-1)) = some (lm_m (lm_c N (lr_nx kd e ov y.2)) (iI 0) y.1 (-1)) := by
  have w1 := w.1
  have K1 := lm_cK (ov := ov) K
  have he1 := lm_ce (ov := ov) he
  have hs := tp_s_b (b := b) hp
  have hl := tp_l_b (a := p) w
  have e1 := lm_look (x := iI 0) (t := -1) w K1 hp
  by_cases c : tp_l b n p = 33 ∨ tp_l b n p = 40
  · obtain ⟨k1, k2⟩ := m_C6 w K1 he1 (tp_s b n p) hs.2
    rw [lr_C_s 6 hp] at k1 k2
    have hC := (lr_UC_g (b := b) w 6).2 p hp
    match hR : lr_C b n 6 p with
    | .inl u =>
      obtain ⟨v', x', a', -, k3⟩ := k1 u hR
      have k3' : g_1 64 6 (iI 0) (iI 0) (lm_m (lm_c N ov) (iI 0) (tp_s b n p) (-1)) = some (v', lm_m (lm_c N ov) x' a' (u : Nat)) := k3
      have hu := hC.1 u hR
      have ee : lr_bo b n z p = .inl u := by
        unfold lr_bo
        rw [if_pos c, hR]
      rw [ee]
      refine ⟨fun u' h => ?_, fun y h => (by cases h)⟩
      cases h
      have e3 := cz_R0 (N := lm_c N ov) (x := x') (a := a') (v1 := iI z) (v17 := v') (u := u) (by omega)
      refine ⟨hu, x', a', ?_⟩
      unfold cz_B
      rcases c with c | c
      · simp (disch := omega) only [qn0, qn1, qn2, qn3, qn4, qn5, qn6, qn7, qn8, qn9, qn10, qn11, qn12, qn13, qn14, qn15, qn16, qn17, qn18, qn24, qn30, qn31, qn32, qn33, qn36, qn38, qn40, qn41, qn42, qn43, qn45, qn47, qn48, qn49, qn50, qn51, qn52, qn53, qn57, qn58, qn59, qn60, qn61, qn62, qn63, qn91, qn93, qn97, qn99, qn100, qn103, qn104, qn112, qn113, qn115, qn116, qn118, qn119, qn121, qn124, qn173, qn177, qn240, qn255, qn295, qn352, qn353, qn533, qn999, qn1000, qn1023, qn6561, qn10000, qn20787, qn1000000, qn252645135, qn858993459, qn1000000000, qn1431655765, q_s1, q_s2, q_s3, q_s4, q_s5, iI_add, iI_sub, iI_mul, iI_neg, q_lt, q_le, q_eq, qz0, qz1, qz2, qz3, if_pos, if_neg, reduceIte, e1, c, k3', e3]
      · simp (disch := omega) only [qn0, qn1, qn2, qn3, qn4, qn5, qn6, qn7, qn8, qn9, qn10, qn11, qn12, qn13, qn14, qn15, qn16, qn17, qn18, qn24, qn30, qn31, qn32, qn33, qn36, qn38, qn40, qn41, qn42, qn43, qn45, qn47, qn48, qn49, qn50, qn51, qn52, qn53, qn57, qn58, qn59, qn60, qn61, qn62, qn63, qn91, qn93, qn97, qn99, qn100, qn103, qn104, qn112, qn113, qn115, qn116, qn118, qn119, qn121, qn124, qn173, qn177, qn240, qn255, qn295, qn352, qn353, qn533, qn999, qn1000, qn1023, qn6561, qn10000, qn20787, qn1000000, qn252645135, qn858993459, qn1000000000, qn1431655765, q_s1, q_s2, q_s3, q_s4, q_s5, iI_add, iI_sub, iI_mul, iI_neg, q_lt, q_le, q_eq, qz0, qz1, qz2, qz3, if_pos, if_neg, reduceIte, e1, c, k3', e3]
    | .inr q =>
      have k3' : g_1 64 6 (iI 0) (iI 0) (lm_m (lm_c N ov) (iI 0) (tp_s b n p) (-1)) = some (iI (q.2.2 e), lm_m (lm_c N ov) (iI 0) q.1 (-1)) := k2 q hR
      obtain ⟨q1, q2, q3, -, -, q6⟩ := hC.2 q hR
      have ee : lr_bo b n z p = lr_ru b n z q := by
        unfold lr_bo
        rw [if_pos c, hR]
      have e5 : cz_B (iI z) (lm_m (lm_c N ov) (iI 0) p (-1)) = cz_R (iI z) (iI (q.2.2 e)) (lm_m (lm_c N ov) (iI 0) q.1 (-1)) := by
        unfold cz_B
        rcases c with c | c
        · simp (disch := omega) only [qn0, qn1, qn2, qn3, qn4, qn5, qn6, qn7, qn8, qn9, qn10, qn11, qn12, qn13, qn14, qn15, qn16, qn17, qn18, qn24, qn30, qn31, qn32, qn33, qn36, qn38, qn40, qn41, qn42, qn43, qn45, qn47, qn48, qn49, qn50, qn51, qn52, qn53, qn57, qn58, qn59, qn60, qn61, qn62, qn63, qn91, qn93, qn97, qn99, qn100, qn103, qn104, qn112, qn113, qn115, qn116, qn118, qn119, qn121, qn124, qn173, qn177, qn240, qn255, qn295, qn352, qn353, qn533, qn999, qn1000, qn1023, qn6561, qn10000, qn20787, qn1000000, qn252645135, qn858993459, qn1000000000, qn1431655765, q_s1, q_s2, q_s3, q_s4, q_s5, iI_add, iI_sub, iI_mul, iI_neg, q_lt, q_le, q_eq, qz0, qz1, qz2, qz3, if_pos, if_neg, reduceIte, e1, c, k3']
        · simp (disch := omega) only [qn0, qn1, qn2, qn3, qn4, qn5, qn6, qn7, qn8, qn9, qn10, qn11, qn12, qn13, qn14, qn15, qn16, qn17, qn18, qn24, qn30, qn31, qn32, qn33, qn36, qn38, qn40, qn41, qn42, qn43, qn45, qn47, qn48, qn49, qn50, qn51, qn52, qn53, qn57, qn58, qn59, qn60, qn61, qn62, qn63, qn91, qn93, qn97, qn99, qn100, qn103, qn104, qn112, qn113, qn115, qn116, qn118, qn119, qn121, qn124, qn173, qn177, qn240, qn255, qn295, qn352, qn353, qn533, qn999, qn1000, qn1023, qn6561, qn10000, qn20787, qn1000000, qn252645135, qn858993459, qn1000000000, qn1431655765, q_s1, q_s2, q_s3, q_s4, q_s5, iI_add, iI_sub, iI_mul, iI_neg, q_lt, q_le, q_eq, qz0, qz1, qz2, qz3, if_pos, if_neg, reduceIte, e1, c, k3']
      rw [ee, e5]
      exact m_ruling w K he hk hkd hz ov q2 (q6 e)
  · obtain ⟨k1, k2⟩ := m_S w K1 he1 6 0 64 rfl (by decide) (tp_s b n p) hs.2
    rw [lr_S_s 6 hp] at k1 k2
    have hS := lr_S_g (b := b) w 6 p hp
    match hR : lr_S b n 6 p with
    | .inl u =>
      obtain ⟨v', x', a', -, k3⟩ := k1 u hR
      have k3' : g_1 64 2 (iI 0) (iI 0) (lm_m (lm_c N ov) (iI 0) (tp_s b n p) (-1)) = some (v', lm_m (lm_c N ov) x' a' (u : Nat)) := k3
      have hu := hS.1 u hR
      have ee : lr_bo b n z p = .inl u := by
        unfold lr_bo
        rw [if_neg c, hR]
      rw [ee]
      refine ⟨fun u' h => ?_, fun y h => (by cases h)⟩
      cases h
      have e3 := cz_G0 (N := lm_c N ov) (x := x') (a := a') (v1 := iI z) (v24 := v') (u := u) (by omega)
      refine ⟨hu, x', a', ?_⟩
      unfold cz_B
      simp (disch := omega) only [qn0, qn1, qn2, qn3, qn4, qn5, qn6, qn7, qn8, qn9, qn10, qn11, qn12, qn13, qn14, qn15, qn16, qn17, qn18, qn24, qn30, qn31, qn32, qn33, qn36, qn38, qn40, qn41, qn42, qn43, qn45, qn47, qn48, qn49, qn50, qn51, qn52, qn53, qn57, qn58, qn59, qn60, qn61, qn62, qn63, qn91, qn93, qn97, qn99, qn100, qn103, qn104, qn112, qn113, qn115, qn116, qn118, qn119, qn121, qn124, qn173, qn177, qn240, qn255, qn295, qn352, qn353, qn533, qn999, qn1000, qn1023, qn6561, qn10000, qn20787, qn1000000, qn252645135, qn858993459, qn1000000000, qn1431655765, q_s1, q_s2, q_s3, q_s4, q_s5, iI_add, iI_sub, iI_mul, iI_neg, q_lt, q_le, q_eq, qz0, qz1, qz2, qz3, if_pos, if_neg, reduceIte, e1, k3', lm_11, e3]
    | .inr q =>
      have k3' : g_1 64 2 (iI 0) (iI 0) (lm_m (lm_c N ov) (iI 0) (tp_s b n p) (-1)) = some (iI (q.2.2 e), lm_m (lm_c N ov) (iI 0) q.1 (-1)) := k2 q hR
      obtain ⟨q1, q2, q3, -, -, q6⟩ := hS.2 q hR
      have hs2 := tp_s_b (b := b) q2
      have hl3 := tp_l_b (a := q.1) w
      have e6 := lm_look (x := iI 0) (t := -1) w K1 q2
      have ec := m_sg (z := tp_l b n q.1) (by omega)
      by_cases c5 : lr_pC (tp_l b n q.1) = true
      · rw [if_pos c5] at ec
        have hnum := lm_num q6 he1
        obtain ⟨m1, m2⟩ := m_C61 w K1 he1 (tp_s b n q.1, q.2) hs2.2 hnum
        have e7 : lr_c2 b n (lr_S b n 6) (lr_U b n 6) (tp_s b n q.1, q.2) = lr_c2 b n (lr_S b n 6) (lr_U b n 6) q := by
          unfold lr_c2
          rw [lr_cm_s q2]
        rw [e7] at m1 m2
        have hM := lr_cm_g w (lr_S_g (b := b) w 6) (hS.2 q hR)
        have hbo : lr_bo b n z p = (match lr_c2 b n (lr_S b n 6) (lr_U b n 6) q with | .inl e => .inl e | .inr q2 => lr_ru b n z q2) := by
          unfold lr_bo lr_c2
          rw [if_neg c, hR]
          simp only [if_pos c5]
          cases lr_cm b n (lr_S b n 6) q <;> rfl
        have hcb : (∀ u, lr_c2 b n (lr_S b n 6) (lr_U b n 6) q = .inl u → u ≤ n) ∧ ∀ y, lr_c2 b n (lr_S b n 6) (lr_U b n 6) q = .inr y → y.1 ≤ n ∧ lr_tru y.2.2 := by
          unfold lr_c2
          match hR2 : lr_cm b n (lr_S b n 6) q with
          | .inl u => exact ⟨fun u' h => by have := Sum.inl.inj h; have := hM.1 u hR2; omega, fun y h => by cases h⟩
          | .inr y =>
            have hT := lr_tl_g (b := b) w (lr_qd_le (hM.2 y hR2) (show 3 + 2 * 6 + 1 ≤ 17 by decide))
            exact ⟨hT.1, fun y' h => ⟨(hT.2 y' h).2.1, (hT.2 y' h).2.2.2.2.2⟩⟩
        rw [hbo]
        match hR3 : lr_c2 b n (lr_S b n 6) (lr_U b n 6) q with
        | .inl u =>
          obtain ⟨v', x', a', -, m3⟩ := m1 u hR3
          have m3' : g_1 64 6 (iI 1) (iI (q.2.2 e)) (lm_m (lm_c N ov) (iI 0) (tp_s b n q.1) (-1)) = some (v', lm_m (lm_c N ov) x' a' (u : Nat)) := m3
          have hu := hcb.1 u hR3
          refine ⟨fun u' h => ?_, fun y h => (by cases h)⟩
          cases h
          have e3 := cz_R0 (N := lm_c N ov) (x := x') (a := a') (v1 := iI z) (v17 := v') (u := u) (by omega)
          refine ⟨hu, x', a', ?_⟩
          unfold cz_B
          simp (disch := omega) only [qn0, qn1, qn2, qn3, qn4, qn5, qn6, qn7, qn8, qn9, qn10, qn11, qn12, qn13, qn14, qn15, qn16, qn17, qn18, qn24, qn30, qn31, qn32, qn33, qn36, qn38, qn40, qn41, qn42, qn43, qn45, qn47, qn48, qn49, qn50, qn51, qn52, qn53, qn57, qn58, qn59, qn60, qn61, qn62, qn63, qn91, qn93, qn97, qn99, qn100, qn103, qn104, qn112, qn113, qn115, qn116, qn118, qn119, qn121, qn124, qn173, qn177, qn240, qn255, qn295, qn352, qn353, qn533, qn999, qn1000, qn1023, qn6561, qn10000, qn20787, qn1000000, qn252645135, qn858993459, qn1000000000, qn1431655765, q_s1, q_s2, q_s3, q_s4, q_s5, iI_add, iI_sub, iI_mul, iI_neg, q_lt, q_le, q_eq, qz0, qz1, qz2, qz3, if_pos, if_neg, reduceIte, e1, k3', lm_11, e6, ec, m3', e3]
        | .inr y =>
          have m3' : g_1 64 6 (iI 1) (iI (q.2.2 e)) (lm_m (lm_c N ov) (iI 0) (tp_s b n q.1) (-1)) = some (iI (y.2.2 e), lm_m (lm_c N ov) (iI 0) y.1 (-1)) := m2 y hR3
          obtain ⟨y1, y2⟩ := hcb.2 y hR3
          have e5 : cz_B (iI z) (lm_m (lm_c N ov) (iI 0) p (-1)) = cz_R (iI z) (iI (y.2.2 e)) (lm_m (lm_c N ov) (iI 0) y.1 (-1)) := by
            unfold cz_B
            simp (disch := omega) only [qn0, qn1, qn2, qn3, qn4, qn5, qn6, qn7, qn8, qn9, qn10, qn11, qn12, qn13, qn14, qn15, qn16, qn17, qn18, qn24, qn30, qn31, qn32, qn33, qn36, qn38, qn40, qn41, qn42, qn43, qn45, qn47, qn48, qn49, qn50, qn51, qn52, qn53, qn57, qn58, qn59, qn60, qn61, qn62, qn63, qn91, qn93, qn97, qn99, qn100, qn103, qn104, qn112, qn113, qn115, qn116, qn118, qn119, qn121, qn124, qn173, qn177, qn240, qn255, qn295, qn352, qn353, qn533, qn999, qn1000, qn1023, qn6561, qn10000, qn20787, qn1000000, qn252645135, qn858993459, qn1000000000, qn1431655765, q_s1, q_s2, q_s3, q_s4, q_s5, iI_add, iI_sub, iI_mul, iI_neg, q_lt, q_le, q_eq, qz0, qz1, qz2, qz3, if_pos, if_neg, reduceIte, e1, k3', lm_11, e6, ec, m3']
          rw [e5]
          exact m_ruling w K he hk hkd hz ov y1 (y2 e)
      · rw [if_neg c5] at ec
        have ee : lr_bo b n z p = .inr (tp_s b n q.1, z, [], (fun _ => 1), q.2.1, q.2.2) := by
          unfold lr_bo
          rw [if_neg c, hR]
          simp only [if_neg c5]
        rw [ee]
        refine ⟨fun u' h => (by cases h), fun y h => ?_⟩
        cases h
        have e3 := cz_G1 (N := N) (ov := ov) (x := iI 0) (a := tp_s b n q.1) (v := q.2.2 e) hk hkd hz
        unfold cz_B
        simp (disch := omega) only [qn0, qn1, qn2, qn3, qn4, qn5, qn6, qn7, qn8, qn9, qn10, qn11, qn12, qn13, qn14, qn15, qn16, qn17, qn18, qn24, qn30, qn31, qn32, qn33, qn36, qn38, qn40, qn41, qn42, qn43, qn45, qn47, qn48, qn49, qn50, qn51, qn52, qn53, qn57, qn58, qn59, qn60, qn61, qn62, qn63, qn91, qn93, qn97, qn99, qn100, qn103, qn104, qn112, qn113, qn115, qn116, qn118, qn119, qn121, qn124, qn173, qn177, qn240, qn255, qn295, qn352, qn353, qn533, qn999, qn1000, qn1023, qn6561, qn10000, qn20787, qn1000000, qn252645135, qn858993459, qn1000000000, qn1431655765, q_s1, q_s2, q_s3, q_s4, q_s5, iI_add, iI_sub, iI_mul, iI_neg, q_lt, q_le, q_eq, qz0, qz1, qz2, qz3, if_pos, if_neg, reduceIte, e1, k3', lm_11, e6, ec, e3]
        rfl
set_option maxHeartbeats 20000000 in
theorem m_lcl (w : tp_w b n) (K : md_K r o b n N) (he : lm_e e N) (hk : N 147 13 = iI kd) (hkd : kd = 121 ∨ kd = 118) (ov : Option Int) (ha : a ≤ n) : (∀ u, lr_cz b n a = .inl u → u ≤ n ∧ ∃ x a', f_X12_clause (lm_m (lm_c N ov) (iI 0) a (-1)) = some (lm_m (lm_c N ov) x a' (u : Nat))) ∧ ∀ y, lr_cz b n a = .inr y → f_X12_clause (lm_m (lm_c N ov) (iI 0) a (-1)) = some (lm_m (lm_c N (lr_nx kd e ov y.2)) (iI 0) y.1 (-1)) := by
  have w1 := w.1
  have K1 := lm_cK (ov := ov) K
  have hs := tp_s_b (b := b) ha
  have hl := tp_l_b (a := a) w
  have e1 := lm_look (x := iI 0) (t := -1) w K1 ha
  have em := lm_am1 (a := a) w
  by_cases c : tp_l b n a = 121 ∨ tp_l b n a = 118
  · rw [if_pos c] at em
    have e4 := lm_takes (x := iI 0) w K1 (a := tp_s b n a + 1) (by omega) (c := 58) (by decide)
    have hs2 := tp_s_b (b := b) (n := n) (a := tp_s b n a + 1) (by omega)
    have hl3 := tp_l_b (a := tp_s b n a + 1) w
    by_cases c2 : tp_l b n (tp_s b n a + 1) = 58
    · rw [if_pos c2] at e4
      have ee : lr_cz b n a = lr_bo b n (tp_l b n a) (tp_s b n (tp_s b n a + 1) + 1) := by
        unfold lr_cz
        rw [if_pos c, if_pos c2]
      have e5 : f_X12_clause (lm_m (lm_c N ov) (iI 0) a (-1)) = cz_B (iI (tp_l b n a)) (lm_m (lm_c N ov) (iI 0) (tp_s b n (tp_s b n a + 1) + 1) (-1)) := by
        rw [cz_eq]
        simp (disch := omega) only [qn0, qn1, qn2, qn3, qn4, qn5, qn6, qn7, qn8, qn9, qn10, qn11, qn12, qn13, qn14, qn15, qn16, qn17, qn18, qn24, qn30, qn31, qn32, qn33, qn36, qn38, qn40, qn41, qn42, qn43, qn45, qn47, qn48, qn49, qn50, qn51, qn52, qn53, qn57, qn58, qn59, qn60, qn61, qn62, qn63, qn91, qn93, qn97, qn99, qn100, qn103, qn104, qn112, qn113, qn115, qn116, qn118, qn119, qn121, qn124, qn173, qn177, qn240, qn255, qn295, qn352, qn353, qn533, qn999, qn1000, qn1023, qn6561, qn10000, qn20787, qn1000000, qn252645135, qn858993459, qn1000000000, qn1431655765, q_s1, q_s2, q_s3, q_s4, q_s5, iI_add, iI_sub, iI_mul, iI_neg, q_lt, q_le, q_eq, qz0, qz1, qz2, qz3, if_pos, if_neg, reduceIte, e1, em, lm_10, lm_s, e4]
      rw [ee, e5]
      exact m_body w K he hk hkd c ov (by omega)
    · rw [if_neg c2] at e4
      have ee : lr_cz b n a = .inl (tp_s b n (tp_s b n a + 1)) := by
        unfold lr_cz
        rw [if_pos c, if_neg c2]
      rw [ee]
      refine ⟨fun u' h => ?_, fun y h => (by cases h)⟩
      cases h
      refine ⟨hs2.2, iI 0, tp_s b n (tp_s b n a + 1), ?_⟩
      rw [cz_eq]
      simp (disch := omega) only [qn0, qn1, qn2, qn3, qn4, qn5, qn6, qn7, qn8, qn9, qn10, qn11, qn12, qn13, qn14, qn15, qn16, qn17, qn18, qn24, qn30, qn31, qn32, qn33, qn36, qn38, qn40, qn41, qn42, qn43, qn45, qn47, qn48, qn49, qn50, qn51, qn52, qn53, qn57, qn58, qn59, qn60, qn61, qn62, qn63, qn91, qn93, qn97, qn99, qn100, qn103, qn104, qn112, qn113, qn115, qn116, qn118, qn119, qn121, qn124, qn173, qn177, qn240, qn255, qn295, qn352, qn353, qn533, qn999, qn1000, qn1023, qn6561, qn10000, qn20787, qn1000000, qn252645135, qn858993459, qn1000000000, qn1431655765, q_s1, q_s2, q_s3, q_s4, q_s5, iI_add, iI_sub, iI_mul, iI_neg, q_lt, q_le, q_eq, qz0, qz1, qz2, qz3, if_pos, if_neg, reduceIte, e1, em, lm_10, lm_s, e4]
  · rw [if_neg c] at em
    have ef := lm_fails (N := lm_c N ov) (x := iI 0) (a := tp_s b n a)
    have ee : lr_cz b n a = .inl (tp_s b n a) := by
      unfold lr_cz
      rw [if_neg c]
    rw [ee]
    refine ⟨fun u' h => ?_, fun y h => (by cases h)⟩
    cases h
    refine ⟨hs.2, iI 0, tp_s b n a, ?_⟩
    rw [cz_eq]
    simp (disch := omega) only [qn0, qn1, qn2, qn3, qn4, qn5, qn6, qn7, qn8, qn9, qn10, qn11, qn12, qn13, qn14, qn15, qn16, qn17, qn18, qn24, qn30, qn31, qn32, qn33, qn36, qn38, qn40, qn41, qn42, qn43, qn45, qn47, qn48, qn49, qn50, qn51, qn52, qn53, qn57, qn58, qn59, qn60, qn61, qn62, qn63, qn91, qn93, qn97, qn99, qn100, qn103, qn104, qn112, qn113, qn115, qn116, qn118, qn119, qn121, qn124, qn173, qn177, qn240, qn255, qn295, qn352, qn353, qn533, qn999, qn1000, qn1023, qn6561, qn10000, qn20787, qn1000000, qn252645135, qn858993459, qn1000000000, qn1431655765, q_s1, q_s2, q_s3, q_s4, q_s5, iI_add, iI_sub, iI_mul, iI_neg, q_lt, q_le, q_eq, qz0, qz1, qz2, qz3, if_pos, if_neg, reduceIte, e1, em, ef]
end Law23
