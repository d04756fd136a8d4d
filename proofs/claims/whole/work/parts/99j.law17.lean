/-! the class reckons a LAW -/
def lr_St (N : gs_M) (r : Nat) : List Int → Prop
  | [] => True
  | x :: st => N (r + 5) st.length = iI x ∧ lr_St N r st
def lr_sb (st : List Int) : Prop := ∀ x ∈ st, -1000000 ≤ x ∧ x ≤ 1000000
theorem lr_St.up {N : gs_M} {r k : Nat} {v : Int32} : ∀ {st : List Int}, lr_St N r st → st.length ≤ k → lr_St (gs_up N (r + 5) k v) r st := by
  intro st
  induction st with
  | nil => intro _ _; exact True.intro
  | cons x st ih =>
    intro h hk
    have hk' : st.length + 1 ≤ k := hk
    refine ⟨?_, ih h.2 (by omega)⟩
    rw [ma_cell_ne _ _ _ _ _ _ (by omega)]
    exact h.1
theorem lr_mulb {x y : Int} (hx : -1000000 ≤ x ∧ x ≤ 1000000) (hy : -1000000 ≤ y ∧ y ≤ 1000000) : -1000000000000 ≤ x * y ∧ x * y ≤ 1000000000000 := by
  have h : (x * y).natAbs ≤ 1000000 * 1000000 := by
    rw [Int.natAbs_mul]
    exact Nat.mul_le_mul (by omega) (by omega)
  omega
theorem lr_and {x y : Int} (hx : x = 0 ∨ x = 1) (hy : y = 0 ∨ y = 1) : iI x &&& iI y = iI (if x = 0 ∨ y = 0 then 0 else 1) := by
  rcases hx with rfl | rfl <;> rcases hy with rfl | rfl <;> decide
theorem lr_or {x y : Int} (hx : x = 0 ∨ x = 1) (hy : y = 0 ∨ y = 1) : iI x ||| iI y = iI (if x = 0 ∧ y = 0 then 0 else 1) := by
  rcases hx with rfl | rfl <;> rcases hy with rfl | rfl <;> decide
theorem lr_cl_hi {v : Int} (h : 1000000 < v) : lr_cl v = 1000000 := if_pos h
theorem lr_cl_lo {v : Int} (h : v < -1000000) : lr_cl v = -1000000 := by
  unfold lr_cl
  rw [if_neg (by omega), if_pos h]
theorem lr_cl_id {v : Int} (h : -1000000 ≤ v ∧ v ≤ 1000000) : lr_cl v = v := by
  unfold lr_cl
  rw [if_neg (by omega), if_neg (by omega)]
theorem c_clip {v : Int} (h : -1000000000000 ≤ v ∧ v ≤ 1000000000000) : (if lg_cmp (jI v) (1000000 : Int64) ≤ (0 : Int32) then some (if (0 : Int32) ≤ lg_cmp (jI v) (-1000000 : Int64) then (jI v).toInt32 else (-1000000 : Int32) : Int32) else some (1000000 : Int32)) = some (iI (lr_cl v)) := by
  rcases (by omega : 1000000 < v ∨ v < -1000000 ∨ (-1000000 ≤ v ∧ v ≤ 1000000)) with c | c | c
  · rw [lr_cl_hi c]
    simp (disch := omega) only [qn0, qn1, qn2, qn3, qn4, qn5, qn6, qn7, qn8, qn9, qn10, qn11, qn12, qn13, qn14, qn15, qn16, qn17, qn18, qn24, qn30, qn31, qn32, qn33, qn36, qn38, qn40, qn41, qn42, qn43, qn45, qn47, qn48, qn49, qn50, qn51, qn52, qn53, qn57, qn58, qn59, qn60, qn61, qn62, qn63, qn91, qn93, qn97, qn99, qn100, qn103, qn104, qn112, qn113, qn115, qn116, qn118, qn119, qn121, qn124, qn173, qn177, qn240, qn255, qn295, qn352, qn353, qn533, qn999, qn1000, qn1023, qn6561, qn10000, qn20787, qn1000000, qn252645135, qn858993459, qn1000000000, qn1431655765, qj0, qj1, qj2, qj4, qj7, qj8, qj9, qj10, qj30, qj100, qj1000, qj1000000, qj1000000000, qj1442695040888963407, qj6364136223846793005, q_s1, q_s2, q_s3, q_s4, q_s5, iI_add, iI_sub, iI_mul, iI_neg, q_lt, q_le, q_eq, jI_add, jI_sub, jI_mul, jI_neg, jI_of, jI_to, j_le0, j_ge0, j_lt0, j_gt0, j_eq0, q_dvl, qz0, qz1, qz2, qz3, if_pos, if_neg, reduceIte]
  · rw [lr_cl_lo c]
    simp (disch := omega) only [qn0, qn1, qn2, qn3, qn4, qn5, qn6, qn7, qn8, qn9, qn10, qn11, qn12, qn13, qn14, qn15, qn16, qn17, qn18, qn24, qn30, qn31, qn32, qn33, qn36, qn38, qn40, qn41, qn42, qn43, qn45, qn47, qn48, qn49, qn50, qn51, qn52, qn53, qn57, qn58, qn59, qn60, qn61, qn62, qn63, qn91, qn93, qn97, qn99, qn100, qn103, qn104, qn112, qn113, qn115, qn116, qn118, qn119, qn121, qn124, qn173, qn177, qn240, qn255, qn295, qn352, qn353, qn533, qn999, qn1000, qn1023, qn6561, qn10000, qn20787, qn1000000, qn252645135, qn858993459, qn1000000000, qn1431655765, qj0, qj1, qj2, qj4, qj7, qj8, qj9, qj10, qj30, qj100, qj1000, qj1000000, qj1000000000, qj1442695040888963407, qj6364136223846793005, q_s1, q_s2, q_s3, q_s4, q_s5, iI_add, iI_sub, iI_mul, iI_neg, q_lt, q_le, q_eq, jI_add, jI_sub, jI_mul, jI_neg, jI_of, jI_to, j_le0, j_ge0, j_lt0, j_gt0, j_eq0, q_dvl, qz0, qz1, qz2, qz3, if_pos, if_neg, reduceIte]
  · rw [lr_cl_id c]
    simp (disch := omega) only [qn0, qn1, qn2, qn3, qn4, qn5, qn6, qn7, qn8, qn9, qn10, qn11, qn12, qn13, qn14, qn15, qn16, qn17, qn18, qn24, qn30, qn31, qn32, qn33, qn36, qn38, qn40, qn41, qn42, qn43, qn45, qn47, qn48, qn49, qn50, qn51, qn52, qn53, qn57, qn58, qn59, qn60, qn61, qn62, qn63, qn91, qn93, qn97, qn99, qn100, qn103, qn104, qn112, qn113, qn115, qn116, qn118, qn119, qn121, qn124, qn173, qn177, qn240, qn255, qn295, qn352, qn353, qn533, qn999, qn1000, qn1023, qn6561, qn10000, qn20787, qn1000000, qn252645135, qn858993459, qn1000000000, qn1431655765, qj0, qj1, qj2, qj4, qj7, qj8, qj9, qj10, qj30, qj100, qj1000, qj1000000, qj1000000000, qj1442695040888963407, qj6364136223846793005, q_s1, q_s2, q_s3, q_s4, q_s5, iI_add, iI_sub, iI_mul, iI_neg, q_lt, q_le, q_eq, jI_add, jI_sub, jI_mul, jI_neg, jI_of, jI_to, j_le0, j_ge0, j_lt0, j_gt0, j_eq0, q_dvl, qz0, qz1, qz2, qz3, if_pos, if_neg, reduceIte]
theorem c_rk42 {x y : Int} (hx : -1000000 ≤ x ∧ x ≤ 1000000) (hy : -1000000 ≤ y ∧ y ≤ 1000000) : f_X2_reckon (iI 42) (iI x) (iI y) = some (iI (lr_cl (x * y))) := by
  have hm := lr_mulb hx hy
  rw [← c_clip hm]
  unfold f_X2_reckon
  rw [jI_of (by omega), jI_of (by omega), jI_mul, if_neg (show ¬ iI 42 = (38 : Int32) by decide), if_pos (show iI 42 = (42 : Int32) from rfl)]
theorem c_rk43 {x y : Int} (hx : -1000000 ≤ x ∧ x ≤ 1000000) (hy : -1000000 ≤ y ∧ y ≤ 1000000) : f_X2_reckon (iI 43) (iI x) (iI y) = some (iI (lr_cl (x + y))) := by
  rw [← c_clip (by omega)]
  unfold f_X2_reckon
  rw [jI_of (by omega), jI_of (by omega), jI_add, if_neg (show ¬ iI 43 = (38 : Int32) by decide), if_neg (show ¬ iI 43 = (42 : Int32) by decide), if_pos (show iI 43 = (43 : Int32) from rfl)]
theorem c_rk45 {x y : Int} (hx : -1000000 ≤ x ∧ x ≤ 1000000) (hy : -1000000 ≤ y ∧ y ≤ 1000000) : f_X2_reckon (iI 45) (iI x) (iI y) = some (iI (lr_cl (x - y))) := by
  rw [← c_clip (by omega)]
  unfold f_X2_reckon
  rw [jI_of (by omega), jI_of (by omega), jI_sub, if_neg (show ¬ iI 45 = (38 : Int32) by decide), if_neg (show ¬ iI 45 = (42 : Int32) by decide), if_neg (show ¬ iI 45 = (43 : Int32) by decide), if_pos (show iI 45 = (45 : Int32) from rfl)]
theorem c_rk47 {x y : Int} (hx : -1000000 ≤ x ∧ x ≤ 1000000) (hy : -1000000 ≤ y ∧ y ≤ 1000000) : f_X2_reckon (iI 47) (iI x) (iI y) = some (iI (if y = 0 then 0 else lr_cl (x.tdiv y))) := by
  unfold f_X2_reckon
  rw [if_neg (show ¬ iI 47 = (38 : Int32) by decide), if_neg (show ¬ iI 47 = (42 : Int32) by decide), if_neg (show ¬ iI 47 = (43 : Int32) by decide), if_neg (show ¬ iI 47 = (45 : Int32) by decide), if_pos (show iI 47 = (47 : Int32) from rfl)]
  by_cases cy : y = 0
  · subst cy
    simp (disch := omega) only [qn0, qn1, qn2, qn3, qn4, qn5, qn6, qn7, qn8, qn9, qn10, qn11, qn12, qn13, qn14, qn15, qn16, qn17, qn18, qn24, qn30, qn31, qn32, qn33, qn36, qn38, qn40, qn41, qn42, qn43, qn45, qn47, qn48, qn49, qn50, qn51, qn52, qn53, qn57, qn58, qn59, qn60, qn61, qn62, qn63, qn91, qn93, qn97, qn99, qn100, qn103, qn104, qn112, qn113, qn115, qn116, qn118, qn119, qn121, qn124, qn173, qn177, qn240, qn255, qn295, qn352, qn353, qn533, qn999, qn1000, qn1023, qn6561, qn10000, qn20787, qn1000000, qn252645135, qn858993459, qn1000000000, qn1431655765, qj0, qj1, qj2, qj4, qj7, qj8, qj9, qj10, qj30, qj100, qj1000, qj1000000, qj1000000000, qj1442695040888963407, qj6364136223846793005, q_s1, q_s2, q_s3, q_s4, q_s5, iI_add, iI_sub, iI_mul, iI_neg, q_lt, q_le, q_eq, jI_add, jI_sub, jI_mul, jI_neg, jI_of, jI_to, j_le0, j_ge0, j_lt0, j_gt0, j_eq0, q_dvl, qz0, qz1, qz2, qz3, if_pos, if_neg, reduceIte]
  · have hd := q_tdivb (a := x) (b := y) (n := 1000000) hx
    have e2 := q_dv (a := x) (b := y) (by omega)
    rw [if_neg cy, lr_cl_id hd]
    simp (disch := omega) only [qn0, qn1, qn2, qn3, qn4, qn5, qn6, qn7, qn8, qn9, qn10, qn11, qn12, qn13, qn14, qn15, qn16, qn17, qn18, qn24, qn30, qn31, qn32, qn33, qn36, qn38, qn40, qn41, qn42, qn43, qn45, qn47, qn48, qn49, qn50, qn51, qn52, qn53, qn57, qn58, qn59, qn60, qn61, qn62, qn63, qn91, qn93, qn97, qn99, qn100, qn103, qn104, qn112, qn113, qn115, qn116, qn118, qn119, qn121, qn124, qn173, qn177, qn240, qn255, qn295, qn352, qn353, qn533, qn999, qn1000, qn1023, qn6561, qn10000, qn20787, qn1000000, qn252645135, qn858993459, qn1000000000, qn1431655765, qj0, qj1, qj2, qj4, qj7, qj8, qj9, qj10, qj30, qj100, qj1000, qj1000000, qj1000000000, qj1442695040888963407, qj6364136223846793005, q_s1, q_s2, q_s3, q_s4, q_s5, iI_add, iI_sub, iI_mul, iI_neg, q_lt, q_le, q_eq, jI_add, jI_sub, jI_mul, jI_neg, jI_of, jI_to, j_le0, j_ge0, j_lt0, j_gt0, j_eq0, q_dvl, qz0, qz1, qz2, qz3, if_pos, if_neg, reduceIte, e2]
theorem c_rk60 {x y : Int} (hx : -1000000 ≤ x ∧ x ≤ 1000000) (hy : -1000000 ≤ y ∧ y ≤ 1000000) : f_X2_reckon (iI 60) (iI x) (iI y) = some (iI (if x < y then 1 else 0)) := by
  unfold f_X2_reckon
  by_cases d : x < y
  · simp (disch := omega) only [qn0, qn1, qn2, qn3, qn4, qn5, qn6, qn7, qn8, qn9, qn10, qn11, qn12, qn13, qn14, qn15, qn16, qn17, qn18, qn24, qn30, qn31, qn32, qn33, qn36, qn38, qn40, qn41, qn42, qn43, qn45, qn47, qn48, qn49, qn50, qn51, qn52, qn53, qn57, qn58, qn59, qn60, qn61, qn62, qn63, qn91, qn93, qn97, qn99, qn100, qn103, qn104, qn112, qn113, qn115, qn116, qn118, qn119, qn121, qn124, qn173, qn177, qn240, qn255, qn295, qn352, qn353, qn533, qn999, qn1000, qn1023, qn6561, qn10000, qn20787, qn1000000, qn252645135, qn858993459, qn1000000000, qn1431655765, q_s1, q_s2, q_s3, q_s4, q_s5, iI_add, iI_sub, iI_mul, iI_neg, q_lt, q_le, q_eq, qz0, qz1, qz2, qz3, if_pos, if_neg, reduceIte]
  · simp (disch := omega) only [qn0, qn1, qn2, qn3, qn4, qn5, qn6, qn7, qn8, qn9, qn10, qn11, qn12, qn13, qn14, qn15, qn16, qn17, qn18, qn24, qn30, qn31, qn32, qn33, qn36, qn38, qn40, qn41, qn42, qn43, qn45, qn47, qn48, qn49, qn50, qn51, qn52, qn53, qn57, qn58, qn59, qn60, qn61, qn62, qn63, qn91, qn93, qn97, qn99, qn100, qn103, qn104, qn112, qn113, qn115, qn116, qn118, qn119, qn121, qn124, qn173, qn177, qn240, qn255, qn295, qn352, qn353, qn533, qn999, qn1000, qn1023, qn6561, qn10000, qn20787, qn1000000, qn252645135, qn858993459, qn1000000000, qn1431655765, q_s1, q_s2, q_s3, q_s4, q_s5, iI_add, iI_sub, iI_mul, iI_neg, q_lt, q_le, q_eq, qz0, qz1, qz2, qz3, if_pos, if_neg, reduceIte]
theorem c_rk61 {x y : Int} (hx : -1000000 ≤ x ∧ x ≤ 1000000) (hy : -1000000 ≤ y ∧ y ≤ 1000000) : f_X2_reckon (iI 61) (iI x) (iI y) = some (iI (if x = y then 1 else 0)) := by
  unfold f_X2_reckon
  by_cases d : x = y
  · simp (disch := omega) only [qn0, qn1, qn2, qn3, qn4, qn5, qn6, qn7, qn8, qn9, qn10, qn11, qn12, qn13, qn14, qn15, qn16, qn17, qn18, qn24, qn30, qn31, qn32, qn33, qn36, qn38, qn40, qn41, qn42, qn43, qn45, qn47, qn48, qn49, qn50, qn51, qn52, qn53, qn57, qn58, qn59, qn60, qn61, qn62, qn63, qn91, qn93, qn97, qn99, qn100, qn103, qn104, qn112, qn113, qn115, qn116, qn118, qn119, qn121, qn124, qn173, qn177, qn240, qn255, qn295, qn352, qn353, qn533, qn999, qn1000, qn1023, qn6561, qn10000, qn20787, qn1000000, qn252645135, qn858993459, qn1000000000, qn1431655765, q_s1, q_s2, q_s3, q_s4, q_s5, iI_add, iI_sub, iI_mul, iI_neg, q_lt, q_le, q_eq, qz0, qz1, qz2, qz3, if_pos, if_neg, reduceIte]
  · simp (disch := omega) only [qn0, qn1, qn2, qn3, qn4, qn5, qn6, qn7, qn8, qn9, qn10, qn11, qn12, qn13, qn14, qn15, qn16, qn17, qn18, qn24, qn30, qn31, qn32, qn33, qn36, qn38, qn40, qn41, qn42, qn43, qn45, qn47, qn48, qn49, qn50, qn51, qn52, qn53, qn57, qn58, qn59, qn60, qn61, qn62, qn63, qn91, qn93, qn97, qn99, qn100, qn103, qn104, qn112, qn113, qn115, qn116, qn118, qn119, qn121, qn124, qn173, qn177, qn240, qn255, qn295, qn352, qn353, qn533, qn999, qn1000, qn1023, qn6561, qn10000, qn20787, qn1000000, qn252645135, qn858993459, qn1000000000, qn1431655765, q_s1, q_s2, q_s3, q_s4, q_s5, iI_add, iI_sub, iI_mul, iI_neg, q_lt, q_le, q_eq, qz0, qz1, qz2, qz3, if_pos, if_neg, reduceIte]
theorem c_rk62 {x y : Int} (hx : -1000000 ≤ x ∧ x ≤ 1000000) (hy : -1000000 ≤ y ∧ y ≤ 1000000) : f_X2_reckon (iI 62) (iI x) (iI y) = some (iI (if y < x then 1 else 0)) := by
  unfold f_X2_reckon
  by_cases d : y < x
  · simp (disch := omega) only [qn0, qn1, qn2, qn3, qn4, qn5, qn6, qn7, qn8, qn9, qn10, qn11, qn12, qn13, qn14, qn15, qn16, qn17, qn18, qn24, qn30, qn31, qn32, qn33, qn36, qn38, qn40, qn41, qn42, qn43, qn45, qn47, qn48, qn49, qn50, qn51, qn52, qn53, qn57, qn58, qn59, qn60, qn61, qn62, qn63, qn91, qn93, qn97, qn99, qn100, qn103, qn104, qn112, qn113, qn115, qn116, qn118, qn119, qn121, qn124, qn173, qn177, qn240, qn255, qn295, qn352, qn353, qn533, qn999, qn1000, qn1023, qn6561, qn10000, qn20787, qn1000000, qn252645135, qn858993459, qn1000000000, qn1431655765, q_s1, q_s2, q_s3, q_s4, q_s5, iI_add, iI_sub, iI_mul, iI_neg, q_lt, q_le, q_eq, qz0, qz1, qz2, qz3, if_pos, if_neg, reduceIte]
  · simp (disch := omega) only [qn0, qn1, qn2, qn3, qn4, qn5, qn6, qn7, qn8, qn9, qn10, qn11, qn12, qn13, qn14, qn15, qn16, qn17, qn18, qn24, qn30, qn31, qn32, qn33, qn36, qn38, qn40, qn41, qn42, qn43, qn45, qn47, qn48, qn49, qn50, qn51, qn52, qn53, qn57, qn58, qn59, qn60, qn61, qn62, qn63, qn91, qn93, qn97, qn99, qn100, qn103, qn104, qn112, qn113, qn115, qn116, qn118, qn119, qn121, qn124, qn173, qn177, qn240, qn255, qn295, qn352, qn353, qn533, qn999, qn1000, qn1023, qn6561, qn10000, qn20787, qn1000000, qn252645135, qn858993459, qn1000000000, qn1431655765, q_s1, q_s2, q_s3, q_s4, q_s5, iI_add, iI_sub, iI_mul, iI_neg, q_lt, q_le, q_eq, qz0, qz1, qz2, qz3, if_pos, if_neg, reduceIte]
theorem c_rk38 (x y : Int32) : f_X2_reckon (iI 38) x y = some (x &&& y) := by
  unfold f_X2_reckon
  rw [if_pos (show iI 38 = (38 : Int32) from rfl)]
theorem c_rkO {z : Int} (x y : Int32) (hz : 0 < z ∧ z ≤ 124) (h : z ≠ 42 ∧ z ≠ 43 ∧ z ≠ 45 ∧ z ≠ 47 ∧ z ≠ 60 ∧ z ≠ 61 ∧ z ≠ 62 ∧ z ≠ 38) : f_X2_reckon (iI z) x y = some (x ||| y) := by
  obtain ⟨h1, h2, h3, h4, h5, h6, h7, h8⟩ := h
  unfold f_X2_reckon
  simp (disch := omega) only [qn0, qn1, qn2, qn3, qn4, qn5, qn6, qn7, qn8, qn9, qn10, qn11, qn12, qn13, qn14, qn15, qn16, qn17, qn18, qn24, qn30, qn31, qn32, qn33, qn36, qn38, qn40, qn41, qn42, qn43, qn45, qn47, qn48, qn49, qn50, qn51, qn52, qn53, qn57, qn58, qn59, qn60, qn61, qn62, qn63, qn91, qn93, qn97, qn99, qn100, qn103, qn104, qn112, qn113, qn115, qn116, qn118, qn119, qn121, qn124, qn173, qn177, qn240, qn255, qn295, qn352, qn353, qn533, qn999, qn1000, qn1023, qn6561, qn10000, qn20787, qn1000000, qn252645135, qn858993459, qn1000000000, qn1431655765, q_s1, q_s2, q_s3, q_s4, q_s5, iI_add, iI_sub, iI_mul, iI_neg, q_lt, q_le, q_eq, qz0, qz1, qz2, qz3, if_pos, if_neg, reduceIte]
theorem c_reck {z x y : Int} (hx : -1000000 ≤ x ∧ x ≤ 1000000) (hy : -1000000 ≤ y ∧ y ≤ 1000000) (hz : 0 < z ∧ z ≤ 124) (ht : z ≠ 42 ∧ z ≠ 43 ∧ z ≠ 45 ∧ z ≠ 47 ∧ z ≠ 60 ∧ z ≠ 61 ∧ z ≠ 62 → (x = 0 ∨ x = 1) ∧ (y = 0 ∨ y = 1)) : f_X2_reckon (iI z) (iI x) (iI y) = some (iI (lr_op z x y)) := by
  unfold lr_op
  by_cases c1 : z = 42
  · rw [if_pos c1, c1]
    exact c_rk42 hx hy
  rw [if_neg c1]
  by_cases c2 : z = 43
  · rw [if_pos c2, c2]
    exact c_rk43 hx hy
  rw [if_neg c2]
  by_cases c3 : z = 45
  · rw [if_pos c3, c3]
    exact c_rk45 hx hy
  rw [if_neg c3]
  by_cases c4 : z = 47
  · rw [if_pos c4, c4]
    exact c_rk47 hx hy
  rw [if_neg c4]
  by_cases c5 : z = 60
  · rw [if_pos c5, c5]
    exact c_rk60 hx hy
  rw [if_neg c5]
  by_cases c6 : z = 61
  · rw [if_pos c6, c6]
    exact c_rk61 hx hy
  rw [if_neg c6]
  by_cases c7 : z = 62
  · rw [if_pos c7, c7]
    exact c_rk62 hx hy
  rw [if_neg c7]
  have ht' := ht ⟨c1, c2, c3, c4, c5, c6, c7⟩
  by_cases c8 : z = 38
  · rw [if_pos c8, c8, c_rk38, lr_and ht'.1 ht'.2]
  · rw [if_neg c8, c_rkO _ _ hz ⟨c1, c2, c3, c4, c5, c6, c7, c8⟩, lr_or ht'.1 ht'.2]
theorem lr_op_b {z x y : Int} : -1000000 ≤ lr_op z x y ∧ lr_op z x y ≤ 1000000 := by
  by_cases c : z = 42 ∨ z = 43 ∨ z = 45 ∨ z = 47
  · exact lr_op_n c x y
  · have := lr_op_t (z := z) (by omega) x y
    omega
section Law17
variable {r : Nat} {e : Nat → Int}
set_option maxHeartbeats 20000000 in
theorem c_runl (x1 : Int32) : ∀ (c : List Int) (i f : Nat) (st st' : List Int) (N : gs_M), (∀ j, j < c.length → N (r + 1) (i + j) = iI (c.getD j 0)) → (∀ z ∈ c, -124 ≤ z ∧ z ≤ 10005) → (∀ j, j < 6 → N 107 j = iI (e j) ∧ -1000000 ≤ e j ∧ e j ≤ 1000000) → 107 ≠ r + 5 → lr_St N r st → lr_sb st → st.length ≤ 32 → i + c.length ≤ 240 → lr_run e c st = some st' → c.length < f → ∃ N', l_X2_run_6 r x1 (iI ((i + c.length : Nat) : Int)) f (iI (st.length : Nat)) (iI (i : Int)) N = some (iI (st'.length : Nat), iI ((i + c.length : Nat) : Int), N') ∧ lr_St N' r st' ∧ lr_sb st' ∧ ∀ x, x ≠ r + 5 → N' x = N x := by
  intro c
  induction c with
  | nil =>
    intro i f st st' N h1 h2 h3 h4 h5 h6 h7 h8 h9 hf
    obtain ⟨f, rfl⟩ : ∃ k, f = k + 1 := ⟨f - 1, by omega⟩
    cases h9
    refine ⟨N, ?_, h5, h6, fun _ _ => rfl⟩
    simp only [l_X2_run_6]
    rw [if_pos (by rw [q_le (by simp only [List.length_nil] at h8; simp only [List.length_nil]; omega)]; simp only [List.length_nil]; omega)]
    rfl
  | cons z c ih =>
    intro i f st st' N h1 h2 h3 h4 h5 h6 h7 h8 h9 hf
    have hlen : (z :: c).length = c.length + 1 := rfl
    rw [hlen] at h1 h8 hf
    obtain ⟨f, rfl⟩ : ∃ k, f = k + 1 := ⟨f - 1, by omega⟩
    have hz := h2 z (List.mem_cons_self ..)
    have e0 : gs_rd N (r + 1) 240 (iI (i : Int)) = some (iI z) := by
      rw [q_rdn i rfl (by omega) (by decide)]
      have := h1 0 (by omega)
      exact congrArg some this
    have hE : ((i + (z :: c).length : Nat) : Int) = ((i + 1 + c.length : Nat) : Int) := by rw [hlen]; omega
    have step : ∀ (s1 : List Int) (N1 : gs_M), (∀ x, x ≠ r + 5 → N1 x = N x) → lr_St N1 r s1 → lr_sb s1 → s1.length ≤ 32 → lr_run e c s1 = some st' → ∃ N', l_X2_run_6 r x1 (iI ((i + 1 + c.length : Nat) : Int)) f (iI (s1.length : Nat)) (iI ((i : Int) + 1)) N1 = some (iI (st'.length : Nat), iI ((i + 1 + c.length : Nat) : Int), N') ∧ lr_St N' r st' ∧ lr_sb st' ∧ ∀ x, x ≠ r + 5 → N' x = N x := by
      intro s1 N1 g1 g2 g3 g4 g5
      obtain ⟨N', k1, k2, k3, k4⟩ := ih (i + 1) f s1 st' N1 (fun j hj => by
        rw [g1 (r + 1) (by omega)]
        have := h1 (j + 1) (by omega)
        rw [show i + 1 + j = i + (j + 1) by omega]
        exact this) (fun y hy => h2 y (List.mem_cons_of_mem _ hy)) (fun j hj => by rw [g1 107 h4]; exact h3 j hj) h4 g2 g3 g4 (by omega) g5 (by omega)
      exact ⟨N', k1, k2, k3, fun x hx => (k4 x hx).trans (g1 x hx)⟩
    rw [hE]
    have hlt : ¬ iI ((i + 1 + c.length : Nat) : Int) ≤ iI (i : Int) := by
      rw [q_le (by omega)]
      omega
    unfold lr_run at h9
    by_cases cz : z < 0
    · rw [if_pos cz] at h9
      by_cases c33 : z = -33
      · rw [if_pos c33] at h9
        subst c33
        match st, h5, h6, h7, h9 with
        | [], _, _, _, h9 => cases h9
        | x :: s1, h5, h6, h7, h9 =>
          have h9' : (if x = 0 ∨ x = 1 then lr_run e c ((1 - x) :: s1) else none) = some st' := h9
          have hx : x = 0 ∨ x = 1 := by
            by_cases hh : x = 0 ∨ x = 1
            · exact hh
            · rw [if_neg hh] at h9'
              cases h9'
          rw [if_pos hx] at h9'
          have hl1 : (x :: s1).length = s1.length + 1 := rfl
          rw [hl1] at h7
          have e1 : gs_rd N (r + 5) 32 (iI (((s1.length + 1 : Nat) : Int) - 1)) = some (iI x) := by
            rw [q_rdn s1.length (by omega) (by omega) (by decide)]
            exact congrArg some h5.1
          have e2 : ∀ v, gs_wr N (r + 5) 32 (iI (((s1.length + 1 : Nat) : Int) - 1)) v = some (gs_up N (r + 5) s1.length v) := fun v => by
            rw [q_wrn s1.length (by omega) (by omega) (by decide)]
          obtain ⟨N', k1, k2⟩ := step ((1 - x) :: s1) (gs_up N (r + 5) s1.length (iI (1 - x))) (fun y hy => ma_row_ne _ _ _ _ _ hy) ⟨gs_up_eq _ _ _ _, h5.2.up (Nat.le_refl _)⟩ (fun y hy => by
            rcases List.mem_cons.1 hy with rfl | hy
            · omega
            · exact h6 y (List.mem_cons_of_mem _ hy)) (by show s1.length + 1 ≤ 32; omega) h9'
          refine ⟨N', ?_, k2⟩
          have k1' : l_X2_run_6 r x1 (iI ((i + 1 + c.length : Nat) : Int)) f (iI ((s1.length + 1 : Nat) : Int)) (iI ((i : Int) + 1)) (gs_up N (r + 5) s1.length (iI (1 - x))) = some (iI (st'.length : Nat), iI ((i + 1 + c.length : Nat) : Int), N') := k1
          rw [hl1, l_X2_run_6, if_neg hlt]
          simp (disch := omega) only [qn0, qn1, qn2, qn3, qn4, qn5, qn6, qn7, qn8, qn9, qn10, qn11, qn12, qn13, qn14, qn15, qn16, qn17, qn18, qn24, qn30, qn31, qn32, qn33, qn36, qn38, qn40, qn41, qn42, qn43, qn45, qn47, qn48, qn49, qn50, qn51, qn52, qn53, qn57, qn58, qn59, qn60, qn61, qn62, qn63, qn91, qn93, qn97, qn99, qn100, qn103, qn104, qn112, qn113, qn115, qn116, qn118, qn119, qn121, qn124, qn173, qn177, qn240, qn255, qn295, qn352, qn353, qn533, qn999, qn1000, qn1023, qn6561, qn10000, qn20787, qn1000000, qn252645135, qn858993459, qn1000000000, qn1431655765, q_s1, q_s2, q_s3, q_s4, q_s5, iI_add, iI_sub, iI_mul, iI_neg, q_lt, q_le, q_eq, qz0, qz1, qz2, qz3, if_pos, if_neg, reduceIte, e0, e1, e2, k1']
      · rw [if_neg c33] at h9
        match st, h5, h6, h7, h9 with
        | [], _, _, _, h9 => cases h9
        | [_], _, _, _, h9 => cases h9
        | y :: x :: s1, h5, h6, h7, h9 =>
          have h9' : (if (z ≠ -42 ∧ z ≠ -43 ∧ z ≠ -45 ∧ z ≠ -47 ∧ z ≠ -60 ∧ z ≠ -61 ∧ z ≠ -62) ∧ ¬ ((x = 0 ∨ x = 1) ∧ (y = 0 ∨ y = 1)) then none else lr_run e c (lr_op (-z) x y :: s1)) = some st' := h9
          have hx : ¬ ((z ≠ -42 ∧ z ≠ -43 ∧ z ≠ -45 ∧ z ≠ -47 ∧ z ≠ -60 ∧ z ≠ -61 ∧ z ≠ -62) ∧ ¬ ((x = 0 ∨ x = 1) ∧ (y = 0 ∨ y = 1))) := fun hh => by
            rw [if_pos hh] at h9'
            cases h9'
          rw [if_neg hx] at h9'
          have hl1 : (y :: x :: s1).length = s1.length + 2 := rfl
          rw [hl1] at h7
          have by1 := h6 y (List.mem_cons_self ..)
          have bx1 := h6 x (List.mem_cons_of_mem _ (List.mem_cons_self ..))
          have er := c_reck (z := -z) bx1 by1 (by omega) (fun hh => by
            by_cases ht : (x = 0 ∨ x = 1) ∧ (y = 0 ∨ y = 1)
            · exact ht
            · exact absurd ⟨by omega, ht⟩ hx)
          have e1 : gs_rd N (r + 5) 32 (iI (((s1.length + 2 : Nat) : Int) + -1 - 1)) = some (iI x) := by
            rw [q_rdn s1.length (by omega) (by omega) (by decide)]
            exact congrArg some h5.2.1
          have e1' : gs_rd N (r + 5) 32 (iI (((s1.length + 2 : Nat) : Int) + -1)) = some (iI y) := by
            rw [q_rdn (s1.length + 1) (by omega) (by omega) (by decide)]
            exact congrArg some h5.1
          have e2 : ∀ v, gs_wr N (r + 5) 32 (iI (((s1.length + 2 : Nat) : Int) + -1 - 1)) v = some (gs_up N (r + 5) s1.length v) := fun v => by
            rw [q_wrn s1.length (by omega) (by omega) (by decide)]
          obtain ⟨N', k1, k2⟩ := step (lr_op (-z) x y :: s1) (gs_up N (r + 5) s1.length (iI (lr_op (-z) x y))) (fun y hy => ma_row_ne _ _ _ _ _ hy) ⟨gs_up_eq _ _ _ _, h5.2.2.up (Nat.le_refl _)⟩ (fun y hy => by
            rcases List.mem_cons.1 hy with rfl | hy
            · exact lr_op_b
            · exact h6 y (List.mem_cons_of_mem _ (List.mem_cons_of_mem _ hy))) (by show s1.length + 1 ≤ 32; omega) h9'
          refine ⟨N', ?_, k2⟩
          have k1' : l_X2_run_6 r x1 (iI ((i + 1 + c.length : Nat) : Int)) f (iI (((s1.length + 2 : Nat) : Int) + -1)) (iI ((i : Int) + 1)) (gs_up N (r + 5) s1.length (iI (lr_op (-z) x y))) = some (iI (st'.length : Nat), iI ((i + 1 + c.length : Nat) : Int), N') := by
            rw [show ((s1.length + 2 : Nat) : Int) + -1 = ((s1.length + 1 : Nat) : Int) by omega]
            exact k1
          rw [hl1, l_X2_run_6, if_neg hlt]
          simp (disch := omega) only [qn0, qn1, qn2, qn3, qn4, qn5, qn6, qn7, qn8, qn9, qn10, qn11, qn12, qn13, qn14, qn15, qn16, qn17, qn18, qn24, qn30, qn31, qn32, qn33, qn36, qn38, qn40, qn41, qn42, qn43, qn45, qn47, qn48, qn49, qn50, qn51, qn52, qn53, qn57, qn58, qn59, qn60, qn61, qn62, qn63, qn91, qn93, qn97, qn99, qn100, qn103, qn104, qn112, qn113, qn115, qn116, qn118, qn119, qn121, qn124, qn173, qn177, qn240, qn255, qn295, qn352, qn353, qn533, qn999, qn1000, qn1023, qn6561, qn10000, qn20787, qn1000000, qn252645135, qn858993459, qn1000000000, qn1431655765, q_s1, q_s2, q_s3, q_s4, q_s5, iI_add, iI_sub, iI_mul, iI_neg, q_lt, q_le, q_eq, qz0, qz1, qz2, qz3, if_pos, if_neg, reduceIte, e0, e1, e1', er, e2, k1']
    · rw [if_neg cz] at h9
      have hs32 : ¬ 32 ≤ st.length := fun hh => by
        rw [if_pos hh] at h9
        cases h9
      rw [if_neg hs32] at h9
      have e2 : ∀ v, gs_wr N (r + 5) 32 (iI (st.length : Nat)) v = some (gs_up N (r + 5) st.length v) := fun v => by
        rw [q_wrn st.length rfl (by omega) (by decide)]
      by_cases c10 : 10000 ≤ z
      · rw [if_pos c10] at h9
        obtain ⟨k, hk⟩ : ∃ k : Nat, z = 10000 + k := ⟨(z - 10000).toNat, by omega⟩
        have hk2 : (z - 10000).toNat = k := by omega
        rw [hk2] at h9
        have hL := h3 k (by omega)
        have e1 : gs_rd N 107 6 (iI (z - 10000)) = some (iI (e k)) := by
          rw [q_rdn k (by omega) (by omega) (by decide)]
          exact congrArg some hL.1
        obtain ⟨N', k1, k2⟩ := step (e k :: st) (gs_up N (r + 5) st.length (iI (e k))) (fun y hy => ma_row_ne _ _ _ _ _ hy) ⟨gs_up_eq _ _ _ _, h5.up (Nat.le_refl _)⟩ (fun y hy => by
          rcases List.mem_cons.1 hy with rfl | hy
          · exact hL.2
          · exact h6 y hy) (by show st.length + 1 ≤ 32; omega) h9
        refine ⟨N', ?_, k2⟩
        have k1' : l_X2_run_6 r x1 (iI ((i + 1 + c.length : Nat) : Int)) f (iI (((st.length : Nat) : Int) + 1)) (iI ((i : Int) + 1)) (gs_up N (r + 5) st.length (iI (e k))) = some (iI (st'.length : Nat), iI ((i + 1 + c.length : Nat) : Int), N') := k1
        rw [l_X2_run_6, if_neg hlt]
        simp (disch := omega) only [qn0, qn1, qn2, qn3, qn4, qn5, qn6, qn7, qn8, qn9, qn10, qn11, qn12, qn13, qn14, qn15, qn16, qn17, qn18, qn24, qn30, qn31, qn32, qn33, qn36, qn38, qn40, qn41, qn42, qn43, qn45, qn47, qn48, qn49, qn50, qn51, qn52, qn53, qn57, qn58, qn59, qn60, qn61, qn62, qn63, qn91, qn93, qn97, qn99, qn100, qn103, qn104, qn112, qn113, qn115, qn116, qn118, qn119, qn121, qn124, qn173, qn177, qn240, qn255, qn295, qn352, qn353, qn533, qn999, qn1000, qn1023, qn6561, qn10000, qn20787, qn1000000, qn252645135, qn858993459, qn1000000000, qn1431655765, q_s1, q_s2, q_s3, q_s4, q_s5, iI_add, iI_sub, iI_mul, iI_neg, q_lt, q_le, q_eq, qz0, qz1, qz2, qz3, if_pos, if_neg, reduceIte, e0, e1, e2, k1']
      · rw [if_neg c10] at h9
        obtain ⟨N', k1, k2⟩ := step (z :: st) (gs_up N (r + 5) st.length (iI z)) (fun y hy => ma_row_ne _ _ _ _ _ hy) ⟨gs_up_eq _ _ _ _, h5.up (Nat.le_refl _)⟩ (fun y hy => by
          rcases List.mem_cons.1 hy with rfl | hy
          · omega
          · exact h6 y hy) (by show st.length + 1 ≤ 32; omega) h9
        refine ⟨N', ?_, k2⟩
        have k1' : l_X2_run_6 r x1 (iI ((i + 1 + c.length : Nat) : Int)) f (iI (((st.length : Nat) : Int) + 1)) (iI ((i : Int) + 1)) (gs_up N (r + 5) st.length (iI z)) = some (iI (st'.length : Nat), iI ((i + 1 + c.length : Nat) : Int), N') := k1
        rw [l_X2_run_6, if_neg hlt]
        simp (disch := omega) only [qn0, qn1, qn2, qn3, qn4, qn5, qn6, qn7, qn8, qn9, qn10, qn11, qn12, qn13, qn14, qn15, qn16, qn17, qn18, qn24, qn30, qn31, qn32, qn33, qn36, qn38, qn40, qn41, qn42, qn43, qn45, qn47, qn48, qn49, qn50, qn51, qn52, qn53, qn57, qn58, qn59, qn60, qn61, qn62, qn63, qn91, qn93, qn97, qn99, qn100, qn103, qn104, qn112, qn113, qn115, qn116, qn118, qn119, qn121, qn124, qn173, qn177, qn240, qn255, qn295, qn352, qn353, qn533, qn999, qn1000, qn1023, qn6561, qn10000, qn20787, qn1000000, qn252645135, qn858993459, qn1000000000, qn1431655765, q_s1, q_s2, q_s3, q_s4, q_s5, iI_add, iI_sub, iI_mul, iI_neg, q_lt, q_le, q_eq, qz0, qz1, qz2, qz3, if_pos, if_neg, reduceIte, e0, e2, k1']
theorem c_run1 {c : List Int} {v : lr_V} {i m : Nat} {N : gs_M} (hv : lr_pu 32 c v) (hm : m = i + c.length) (h1 : ∀ j, j < c.length → N (r + 1) (i + j) = iI (c.getD j 0)) (h2 : ∀ z ∈ c, -124 ≤ z ∧ z ≤ 10005) (h3 : ∀ j, j < 6 → N 107 j = iI (e j) ∧ -1000000 ≤ e j ∧ e j ≤ 1000000) (h4 : 107 ≠ r + 5) (h8 : i + c.length ≤ 240) : ∃ N', f_X2_run N r (iI (i : Int)) (iI (m : Int)) = some (iI (v e), N') ∧ ∀ x, x ≠ r + 5 → N' x = N x := by
  subst hm
  obtain ⟨N', k1, k2, k3, k4⟩ := c_runl (r := r) (e := e) (iI (i : Int)) c i gs_FU [] [v e] N h1 h2 h3 h4 True.intro (fun x hx => by cases hx) (by decide) h8 (hv e [] (by decide)) (by show c.length < 30000; omega)
  refine ⟨N', ?_, k4⟩
  have k1' : l_X2_run_6 r (iI (i : Int)) (iI ((i + c.length : Nat) : Int)) gs_FU (iI 0) (iI (i : Int)) N = some (iI 1, iI ((i + c.length : Nat) : Int), N') := k1
  have e1 : gs_rd N' (r + 5) 32 (iI 0) = some (iI (v e)) := by
    rw [q_rdn (z := 0) 0 rfl (by omega) (by decide)]
    exact congrArg some k2.1
  unfold f_X2_run
  simp (disch := omega) only [qn0, qn1, qn2, qn3, qn4, qn5, qn6, qn7, qn8, qn9, qn10, qn11, qn12, qn13, qn14, qn15, qn16, qn17, qn18, qn24, qn30, qn31, qn32, qn33, qn36, qn38, qn40, qn41, qn42, qn43, qn45, qn47, qn48, qn49, qn50, qn51, qn52, qn53, qn57, qn58, qn59, qn60, qn61, qn62, qn63, qn91, qn93, qn97, qn99, qn100, qn103, qn104, qn112, qn113, qn115, qn116, qn118, qn119, qn121, qn124, qn173, qn177, qn240, qn255, qn295, qn352, qn353, qn533, qn999, qn1000, qn1023, qn6561, qn10000, qn20787, qn1000000, qn252645135, qn858993459, qn1000000000, qn1431655765, q_s1, q_s2, q_s3, q_s4, q_s5, iI_add, iI_sub, iI_mul, iI_neg, q_lt, q_le, q_eq, qz0, qz1, qz2, qz3, if_pos, if_neg, reduceIte, k1', e1]
end Law17
