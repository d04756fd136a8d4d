/-! a clause and all clauses read by the class -/
def cl_B (M13 : gs_M) : Option (Int32 × gs_M) :=
  gs_b2 (f_X7_look M13) fun v15 M16 =>
  if v15 = (33 : Int32) then
  gs_b2 ((g_0 64) 3 (0 : Int32) M16) fun v19 M20 =>
  gs_b2 (if v19 = (0 : Int32) then
  some ((0 : Int32), M20)
  else
  gs_b2 (f_X3_readRuling M20) fun v27 M28 =>
  if v27 = (0 : Int32) then
  some ((0 : Int32), M28)
  else
  some ((1 : Int32), M28)) fun y22 M23 =>
  gs_b1 (gs_ckZ y22) fun z31 =>
  some (z31, M23)
  else
  if v15 = (40 : Int32) then
  gs_b2 ((g_0 64) 3 (0 : Int32) M16) fun v62 M63 =>
  gs_b2 (if v62 = (0 : Int32) then
  some ((0 : Int32), M63)
  else
  gs_b2 (f_X3_readRuling M63) fun v70 M71 =>
  if v70 = (0 : Int32) then
  some ((0 : Int32), M71)
  else
  some ((1 : Int32), M71)) fun y65 M66 =>
  gs_b1 (gs_ckZ y65) fun z74 =>
  some (z74, M66)
  else
  gs_b2 ((g_0 64) 0 (0 : Int32) M16) fun v34 M35 =>
  if v34 = (0 : Int32) then
  some ((0 : Int32), M35)
  else
  gs_b2 (f_X7_look M35) fun v38 M39 =>
  gs_b1 (f_X3_compares v38) fun v41 =>
  gs_b2 (if v41 = (0 : Int32) then
  some ((1 : Int32), M39)
  else
  gs_b2 ((g_0 64) 7 (0 : Int32) M39) fun v48 M49 =>
  if v48 = (0 : Int32) then
  some ((0 : Int32), M49)
  else
  gs_b2 ((g_0 64) 4 (0 : Int32) M49) fun v52 M53 =>
  if v52 = (0 : Int32) then
  some ((0 : Int32), M53)
  else
  gs_b2 (f_X3_readRuling M53) fun v56 M57 =>
  if v56 = (0 : Int32) then
  some ((0 : Int32), M57)
  else
  some ((1 : Int32), M57)) fun y43 M44 =>
  gs_b1 (gs_ckZ y43) fun z60 =>
  some (z60, M44)
theorem cl_eq (M : gs_M) : f_X3_readClause M = gs_b2 (f_X7_look M) fun v1 M2 =>
  if v1 = (121 : Int32) then
  gs_b1 (f_X7_step M2) fun M5 =>
  gs_b2 (f_X7_take M5 (58 : Int32)) fun v7 M8 =>
  if v7 = (0 : Int32) then
  some ((0 : Int32), M8)
  else
  gs_b1 (gs_ckW (M8 104 1).toNatClampNeg) fun r11 =>
  gs_b1 (f_X2_open M8 r11 v1) fun M13 => cl_B M13
  else
  if v1 = (118 : Int32) then
  gs_b1 (f_X7_step M2) fun M5 =>
  gs_b2 (f_X7_take M5 (58 : Int32)) fun v7 M8 =>
  if v7 = (0 : Int32) then
  some ((0 : Int32), M8)
  else
  gs_b1 (gs_ckW (M8 104 1).toNatClampNeg) fun r11 =>
  gs_b1 (f_X2_open M8 r11 v1) fun M13 => cl_B M13
  else
  gs_b2 (f_X7_fail M2) fun v148 M149 =>
  gs_b1 (gs_ckZ v148) fun z151 =>
  some (z151, M149) := rfl
section Law16
variable {b : Nat → Int} {n r a p : Nat} {t : Int} {M N N' : gs_M} {l : List lr_L} {q : lr_Q} {kd : Int} {x y : lr_L} {pre : List Int}
set_option maxHeartbeats 20000000 in
theorem c_body (w : tp_w b n) (hr : lr_r r) (K : tp_K b n N) (hN : N 104 1 = nI r) (hp : p ≤ n) (hK : lr_K r (lr_fl l) N) (hlen : (lr_fl l).length ≤ p) (hE : lr_E r (l ++ [x]) N) (hx : x.1 = kd) (hx2 : x.2.1 = []) (hl : l.length < 61) : ∃ N' a', lr_Y r N N' ∧ (∀ e, lr_bo b n kd p = .inl e → cl_B (tp_m N p (-1)) = some (iI 0, tp_m N' a' e)) ∧ ∀ y, lr_bo b n kd p = .inr y → lr_K r (lr_fl (l ++ [y.2])) N' ∧ lr_E r (l ++ [y.2]) N' ∧ cl_B (tp_m N p (-1)) = some (iI 1, tp_m N' y.1 (-1)) := by
  have w1 := w.1
  have hs := tp_s_b (b := b) hp
  have hl2 := tp_l_b (a := p) w
  have e1 := c_look (t := -1) w K hp
  by_cases c : tp_l b n p = 33 ∨ tp_l b n p = 40
  · obtain ⟨N1, a1, k0, k1, k2⟩ := c_C w hr K hN (k := 6) (dp := 0) (d := 64) rfl (by decide) (tp_s b n p) N (lr_fl l) hs.2 (fun _ _ _ _ => rfl) hK (by omega)
    rw [lr_C_s 6 hp] at k1 k2
    match hR : lr_C b n 6 p with
    | .inl u =>
      obtain ⟨k3, k4⟩ := k1 u hR
      have k4' : g_0 64 3 (iI 0) (tp_m N (tp_s b n p) (-1)) = some (iI 0, tp_m N1 a1 u) := k4
      have e : lr_bo b n kd p = .inl u := by
        unfold lr_bo
        rw [if_pos c, hR]
      rw [e]
      refine ⟨N1, a1, k0.Y, fun e h => ?_, fun y h => (by cases h)⟩
      cases h
      unfold cl_B
      rcases c with c | c
      · simp (disch := omega) only [qn0, qn1, qn2, qn3, qn4, qn5, qn6, qn7, qn8, qn9, qn10, qn11, qn12, qn13, qn14, qn15, qn16, qn17, qn18, qn24, qn30, qn31, qn32, qn33, qn36, qn38, qn40, qn41, qn42, qn43, qn45, qn47, qn48, qn49, qn50, qn51, qn52, qn53, qn57, qn58, qn59, qn60, qn61, qn62, qn63, qn91, qn93, qn97, qn99, qn100, qn103, qn104, qn112, qn113, qn115, qn116, qn118, qn119, qn121, qn124, qn173, qn177, qn240, qn255, qn295, qn352, qn353, qn533, qn999, qn1000, qn1023, qn6561, qn10000, qn20787, qn1000000, qn252645135, qn858993459, qn1000000000, qn1431655765, q_s1, q_s2, q_s3, q_s4, q_s5, iI_add, iI_sub, iI_mul, iI_neg, q_lt, q_le, q_eq, qz0, qz1, qz2, qz3, if_pos, if_neg, reduceIte, e1, c, k4']
      · simp (disch := omega) only [qn0, qn1, qn2, qn3, qn4, qn5, qn6, qn7, qn8, qn9, qn10, qn11, qn12, qn13, qn14, qn15, qn16, qn17, qn18, qn24, qn30, qn31, qn32, qn33, qn36, qn38, qn40, qn41, qn42, qn43, qn45, qn47, qn48, qn49, qn50, qn51, qn52, qn53, qn57, qn58, qn59, qn60, qn61, qn62, qn63, qn91, qn93, qn97, qn99, qn100, qn103, qn104, qn112, qn113, qn115, qn116, qn118, qn119, qn121, qn124, qn173, qn177, qn240, qn255, qn295, qn352, qn353, qn533, qn999, qn1000, qn1023, qn6561, qn10000, qn20787, qn1000000, qn252645135, qn858993459, qn1000000000, qn1431655765, q_s1, q_s2, q_s3, q_s4, q_s5, iI_add, iI_sub, iI_mul, iI_neg, q_lt, q_le, q_eq, qz0, qz1, qz2, qz3, if_pos, if_neg, reduceIte, e1, c, k4']
    | .inr q =>
      obtain ⟨k3, k4⟩ := k2 q hR
      have k4' : g_0 64 3 (iI 0) (tp_m N (tp_s b n p) (-1)) = some (iI 1, tp_m N1 q.1 (-1)) := k4
      obtain ⟨q1, q2, q3, -⟩ := ((lr_UC_g (b := b) w 6).2 p hp).2 q hR
      obtain ⟨N2, a2, m0, m1, m2⟩ := c_ruling w hr (k0.K hr K) (k0.Y.h hr hN) q2 k3 (by rw [List.length_append]; omega) (hE.X k0) hx hl
      have e : lr_bo b n kd p = lr_ru b n kd q := by
        unfold lr_bo
        rw [if_pos c, hR]
      rw [e]
      refine ⟨N2, a2, k0.Y.tr m0, fun e h => ?_, fun y h => ?_⟩
      · have m3 := m1 e h
        unfold cl_B
        rcases c with c | c
        · simp (disch := omega) only [qn0, qn1, qn2, qn3, qn4, qn5, qn6, qn7, qn8, qn9, qn10, qn11, qn12, qn13, qn14, qn15, qn16, qn17, qn18, qn24, qn30, qn31, qn32, qn33, qn36, qn38, qn40, qn41, qn42, qn43, qn45, qn47, qn48, qn49, qn50, qn51, qn52, qn53, qn57, qn58, qn59, qn60, qn61, qn62, qn63, qn91, qn93, qn97, qn99, qn100, qn103, qn104, qn112, qn113, qn115, qn116, qn118, qn119, qn121, qn124, qn173, qn177, qn240, qn255, qn295, qn352, qn353, qn533, qn999, qn1000, qn1023, qn6561, qn10000, qn20787, qn1000000, qn252645135, qn858993459, qn1000000000, qn1431655765, q_s1, q_s2, q_s3, q_s4, q_s5, iI_add, iI_sub, iI_mul, iI_neg, q_lt, q_le, q_eq, qz0, qz1, qz2, qz3, if_pos, if_neg, reduceIte, e1, c, k4', m3]
        · simp (disch := omega) only [qn0, qn1, qn2, qn3, qn4, qn5, qn6, qn7, qn8, qn9, qn10, qn11, qn12, qn13, qn14, qn15, qn16, qn17, qn18, qn24, qn30, qn31, qn32, qn33, qn36, qn38, qn40, qn41, qn42, qn43, qn45, qn47, qn48, qn49, qn50, qn51, qn52, qn53, qn57, qn58, qn59, qn60, qn61, qn62, qn63, qn91, qn93, qn97, qn99, qn100, qn103, qn104, qn112, qn113, qn115, qn116, qn118, qn119, qn121, qn124, qn173, qn177, qn240, qn255, qn295, qn352, qn353, qn533, qn999, qn1000, qn1023, qn6561, qn10000, qn20787, qn1000000, qn252645135, qn858993459, qn1000000000, qn1431655765, q_s1, q_s2, q_s3, q_s4, q_s5, iI_add, iI_sub, iI_mul, iI_neg, q_lt, q_le, q_eq, qz0, qz1, qz2, qz3, if_pos, if_neg, reduceIte, e1, c, k4', m3]
      · obtain ⟨m3, m4, m5⟩ := m2 y h
        refine ⟨m3, m4, ?_⟩
        unfold cl_B
        rcases c with c | c
        · simp (disch := omega) only [qn0, qn1, qn2, qn3, qn4, qn5, qn6, qn7, qn8, qn9, qn10, qn11, qn12, qn13, qn14, qn15, qn16, qn17, qn18, qn24, qn30, qn31, qn32, qn33, qn36, qn38, qn40, qn41, qn42, qn43, qn45, qn47, qn48, qn49, qn50, qn51, qn52, qn53, qn57, qn58, qn59, qn60, qn61, qn62, qn63, qn91, qn93, qn97, qn99, qn100, qn103, qn104, qn112, qn113, qn115, qn116, qn118, qn119, qn121, qn124, qn173, qn177, qn240, qn255, qn295, qn352, qn353, qn533, qn999, qn1000, qn1023, qn6561, qn10000, qn20787, qn1000000, qn252645135, qn858993459, qn1000000000, qn1431655765, q_s1, q_s2, q_s3, q_s4, q_s5, iI_add, iI_sub, iI_mul, iI_neg, q_lt, q_le, q_eq, qz0, qz1, qz2, qz3, if_pos, if_neg, reduceIte, e1, c, k4', m5]
        · simp (disch := omega) only [qn0, qn1, qn2, qn3, qn4, qn5, qn6, qn7, qn8, qn9, qn10, qn11, qn12, qn13, qn14, qn15, qn16, qn17, qn18, qn24, qn30, qn31, qn32, qn33, qn36, qn38, qn40, qn41, qn42, qn43, qn45, qn47, qn48, qn49, qn50, qn51, qn52, qn53, qn57, qn58, qn59, qn60, qn61, qn62, qn63, qn91, qn93, qn97, qn99, qn100, qn103, qn104, qn112, qn113, qn115, qn116, qn118, qn119, qn121, qn124, qn173, qn177, qn240, qn255, qn295, qn352, qn353, qn533, qn999, qn1000, qn1023, qn6561, qn10000, qn20787, qn1000000, qn252645135, qn858993459, qn1000000000, qn1431655765, q_s1, q_s2, q_s3, q_s4, q_s5, iI_add, iI_sub, iI_mul, iI_neg, q_lt, q_le, q_eq, qz0, qz1, qz2, qz3, if_pos, if_neg, reduceIte, e1, c, k4', m5]
  · obtain ⟨N1, a1, k0, k1, k2⟩ := c_S w hr K hN 6 0 64 rfl (by decide) (tp_s b n p) N (lr_fl l) hs.2 (fun _ _ _ _ => rfl) hK (by omega)
    rw [lr_S_s 6 hp] at k1 k2
    match hR : lr_S b n 6 p with
    | .inl u =>
      obtain ⟨k3, k4⟩ := k1 u hR
      have k4' : g_0 64 0 (iI 0) (tp_m N (tp_s b n p) (-1)) = some (iI 0, tp_m N1 a1 u) := k4
      have e : lr_bo b n kd p = .inl u := by
        unfold lr_bo
        rw [if_neg c, hR]
      rw [e]
      refine ⟨N1, a1, k0.Y, fun e h => ?_, fun y h => (by cases h)⟩
      cases h
      unfold cl_B
      simp (disch := omega) only [qn0, qn1, qn2, qn3, qn4, qn5, qn6, qn7, qn8, qn9, qn10, qn11, qn12, qn13, qn14, qn15, qn16, qn17, qn18, qn24, qn30, qn31, qn32, qn33, qn36, qn38, qn40, qn41, qn42, qn43, qn45, qn47, qn48, qn49, qn50, qn51, qn52, qn53, qn57, qn58, qn59, qn60, qn61, qn62, qn63, qn91, qn93, qn97, qn99, qn100, qn103, qn104, qn112, qn113, qn115, qn116, qn118, qn119, qn121, qn124, qn173, qn177, qn240, qn255, qn295, qn352, qn353, qn533, qn999, qn1000, qn1023, qn6561, qn10000, qn20787, qn1000000, qn252645135, qn858993459, qn1000000000, qn1431655765, q_s1, q_s2, q_s3, q_s4, q_s5, iI_add, iI_sub, iI_mul, iI_neg, q_lt, q_le, q_eq, qz0, qz1, qz2, qz3, if_pos, if_neg, reduceIte, e1, k4']
    | .inr q =>
      obtain ⟨k3, k4⟩ := k2 q hR
      have k4' : g_0 64 0 (iI 0) (tp_m N (tp_s b n p) (-1)) = some (iI 1, tp_m N1 q.1 (-1)) := k4
      have hq := (lr_S_g (b := b) w 6 p hp).2 q hR
      obtain ⟨q1, q2, q3, -⟩ := id hq
      have hs2 := tp_s_b (b := b) q2
      have hl3 := tp_l_b (a := q.1) w
      have e6 := c_look (t := -1) w (k0.K hr K) q2
      have ec := c_cmp (z := tp_l b n q.1) (by omega)
      by_cases c5 : lr_pC (tp_l b n q.1) = true
      · rw [if_pos c5] at ec
        obtain ⟨N2, a2, m0, m1, m2⟩ := c_cm7 w hr K hN (k := 6) (dp := 0) (d := 64) rfl (by decide) (tp_s b n q.1, q.2) N1 (lr_fl l) hs2.2 k0 k3 (by
          show (lr_fl l ++ q.2.1).length ≤ tp_s b n q.1
          rw [List.length_append]
          omega)
        rw [lr_cm_s q2] at m1 m2
        have hM := lr_cm_g w (lr_S_g (b := b) w 6) hq
        match hR2 : lr_cm b n (lr_S b n 6) q with
        | .inl u =>
          obtain ⟨m3, m4⟩ := m1 u hR2
          have m4' : g_0 64 7 (iI 0) (tp_m N1 (tp_s b n q.1) (-1)) = some (iI 0, tp_m N2 a2 u) := m4
          have e : lr_bo b n kd p = .inl u := by
            unfold lr_bo
            rw [if_neg c, hR]
            simp only [if_pos c5, hR2]
          rw [e]
          refine ⟨N2, a2, m0.Y, fun e h => ?_, fun y h => (by cases h)⟩
          cases h
          unfold cl_B
          simp (disch := omega) only [qn0, qn1, qn2, qn3, qn4, qn5, qn6, qn7, qn8, qn9, qn10, qn11, qn12, qn13, qn14, qn15, qn16, qn17, qn18, qn24, qn30, qn31, qn32, qn33, qn36, qn38, qn40, qn41, qn42, qn43, qn45, qn47, qn48, qn49, qn50, qn51, qn52, qn53, qn57, qn58, qn59, qn60, qn61, qn62, qn63, qn91, qn93, qn97, qn99, qn100, qn103, qn104, qn112, qn113, qn115, qn116, qn118, qn119, qn121, qn124, qn173, qn177, qn240, qn255, qn295, qn352, qn353, qn533, qn999, qn1000, qn1023, qn6561, qn10000, qn20787, qn1000000, qn252645135, qn858993459, qn1000000000, qn1431655765, q_s1, q_s2, q_s3, q_s4, q_s5, iI_add, iI_sub, iI_mul, iI_neg, q_lt, q_le, q_eq, qz0, qz1, qz2, qz3, if_pos, if_neg, reduceIte, e1, k4', e6, ec, m4']
        | .inr q1' =>
          obtain ⟨m3, m4⟩ := m2 q1' hR2
          have m4' : g_0 64 7 (iI 0) (tp_m N1 (tp_s b n q.1) (-1)) = some (iI 1, tp_m N2 q1'.1 (-1)) := m4
          have hq1 := hM.2 q1' hR2
          obtain ⟨r1, r2, r3, -⟩ := id hq1
          obtain ⟨N3, a3, o0, o1, o2⟩ := c_T4 w hr K hN (k := 6) (dp := 0) (d := 64) rfl (by decide) q1' N2 (lr_fl l) r2 m0 m3 (by rw [List.length_append]; omega)
          have hT := lr_tl_g (b := b) w (lr_qd_le hq1 (show 3 + 2 * 6 + 1 ≤ 17 by decide))
          match hR3 : lr_tl b n (lr_U b n 6) q1' with
          | .inl u =>
            obtain ⟨o3, o4⟩ := o1 u hR3
            have o4' : g_0 64 4 (iI 0) (tp_m N2 q1'.1 (-1)) = some (iI 0, tp_m N3 a3 u) := o4
            have e : lr_bo b n kd p = .inl u := by
              unfold lr_bo
              rw [if_neg c, hR]
              simp only [if_pos c5, hR2, hR3]
            rw [e]
            refine ⟨N3, a3, o0.Y, fun e h => ?_, fun y h => (by cases h)⟩
            cases h
            unfold cl_B
            simp (disch := omega) only [qn0, qn1, qn2, qn3, qn4, qn5, qn6, qn7, qn8, qn9, qn10, qn11, qn12, qn13, qn14, qn15, qn16, qn17, qn18, qn24, qn30, qn31, qn32, qn33, qn36, qn38, qn40, qn41, qn42, qn43, qn45, qn47, qn48, qn49, qn50, qn51, qn52, qn53, qn57, qn58, qn59, qn60, qn61, qn62, qn63, qn91, qn93, qn97, qn99, qn100, qn103, qn104, qn112, qn113, qn115, qn116, qn118, qn119, qn121, qn124, qn173, qn177, qn240, qn255, qn295, qn352, qn353, qn533, qn999, qn1000, qn1023, qn6561, qn10000, qn20787, qn1000000, qn252645135, qn858993459, qn1000000000, qn1431655765, q_s1, q_s2, q_s3, q_s4, q_s5, iI_add, iI_sub, iI_mul, iI_neg, q_lt, q_le, q_eq, qz0, qz1, qz2, qz3, if_pos, if_neg, reduceIte, e1, k4', e6, ec, m4', o4']
          | .inr q2' =>
            obtain ⟨o3, o4⟩ := o2 q2' hR3
            have o4' : g_0 64 4 (iI 0) (tp_m N2 q1'.1 (-1)) = some (iI 1, tp_m N3 q2'.1 (-1)) := o4
            obtain ⟨s1, s2, s3, -⟩ := hT.2 q2' hR3
            obtain ⟨N4, a4, v0, v1, v2⟩ := c_ruling w hr (o0.K hr K) (o0.Y.h hr hN) s2 o3 (by rw [List.length_append]; omega) (hE.X o0) hx hl
            have e : lr_bo b n kd p = lr_ru b n kd q2' := by
              unfold lr_bo
              rw [if_neg c, hR]
              simp only [if_pos c5, hR2, hR3]
            rw [e]
            refine ⟨N4, a4, o0.Y.tr v0, fun e h => ?_, fun y h => ?_⟩
            · have v3 := v1 e h
              unfold cl_B
              simp (disch := omega) only [qn0, qn1, qn2, qn3, qn4, qn5, qn6, qn7, qn8, qn9, qn10, qn11, qn12, qn13, qn14, qn15, qn16, qn17, qn18, qn24, qn30, qn31, qn32, qn33, qn36, qn38, qn40, qn41, qn42, qn43, qn45, qn47, qn48, qn49, qn50, qn51, qn52, qn53, qn57, qn58, qn59, qn60, qn61, qn62, qn63, qn91, qn93, qn97, qn99, qn100, qn103, qn104, qn112, qn113, qn115, qn116, qn118, qn119, qn121, qn124, qn173, qn177, qn240, qn255, qn295, qn352, qn353, qn533, qn999, qn1000, qn1023, qn6561, qn10000, qn20787, qn1000000, qn252645135, qn858993459, qn1000000000, qn1431655765, q_s1, q_s2, q_s3, q_s4, q_s5, iI_add, iI_sub, iI_mul, iI_neg, q_lt, q_le, q_eq, qz0, qz1, qz2, qz3, if_pos, if_neg, reduceIte, e1, k4', e6, ec, m4', o4', v3]
            · obtain ⟨v3, v4, v5⟩ := v2 y h
              refine ⟨v3, v4, ?_⟩
              unfold cl_B
              simp (disch := omega) only [qn0, qn1, qn2, qn3, qn4, qn5, qn6, qn7, qn8, qn9, qn10, qn11, qn12, qn13, qn14, qn15, qn16, qn17, qn18, qn24, qn30, qn31, qn32, qn33, qn36, qn38, qn40, qn41, qn42, qn43, qn45, qn47, qn48, qn49, qn50, qn51, qn52, qn53, qn57, qn58, qn59, qn60, qn61, qn62, qn63, qn91, qn93, qn97, qn99, qn100, qn103, qn104, qn112, qn113, qn115, qn116, qn118, qn119, qn121, qn124, qn173, qn177, qn240, qn255, qn295, qn352, qn353, qn533, qn999, qn1000, qn1023, qn6561, qn10000, qn20787, qn1000000, qn252645135, qn858993459, qn1000000000, qn1431655765, q_s1, q_s2, q_s3, q_s4, q_s5, iI_add, iI_sub, iI_mul, iI_neg, q_lt, q_le, q_eq, qz0, qz1, qz2, qz3, if_pos, if_neg, reduceIte, e1, k4', e6, ec, m4', o4', v5]
      · rw [if_neg c5] at ec
        have e : lr_bo b n kd p = .inr (tp_s b n q.1, kd, [], (fun _ => 1), q.2.1, q.2.2) := by
          unfold lr_bo
          rw [if_neg c, hR]
          simp only [if_neg c5]
        rw [e]
        refine ⟨N1, 0, k0.Y, fun e h => (by cases h), fun y h => ?_⟩
        cases h
        refine ⟨?_, lr_E_eq (hE.X k0) hx.symm (by rw [hx2]), ?_⟩
        · rw [lr_fl_1]
          exact k3
        · unfold cl_B
          simp (disch := omega) only [qn0, qn1, qn2, qn3, qn4, qn5, qn6, qn7, qn8, qn9, qn10, qn11, qn12, qn13, qn14, qn15, qn16, qn17, qn18, qn24, qn30, qn31, qn32, qn33, qn36, qn38, qn40, qn41, qn42, qn43, qn45, qn47, qn48, qn49, qn50, qn51, qn52, qn53, qn57, qn58, qn59, qn60, qn61, qn62, qn63, qn91, qn93, qn97, qn99, qn100, qn103, qn104, qn112, qn113, qn115, qn116, qn118, qn119, qn121, qn124, qn173, qn177, qn240, qn255, qn295, qn352, qn353, qn533, qn999, qn1000, qn1023, qn6561, qn10000, qn20787, qn1000000, qn252645135, qn858993459, qn1000000000, qn1431655765, q_s1, q_s2, q_s3, q_s4, q_s5, iI_add, iI_sub, iI_mul, iI_neg, q_lt, q_le, q_eq, qz0, qz1, qz2, qz3, if_pos, if_neg, reduceIte, e1, k4', e6, ec]
set_option maxHeartbeats 20000000 in
theorem c_lcl (w : tp_w b n) (hr : lr_r r) (K : tp_K b n N) (hN : N 104 1 = nI r) (ha : a ≤ n) (hK : lr_K r (lr_fl l) N) (hlen : (lr_fl l).length ≤ a) (hE : lr_E r l N) (hl : l.length < 61) : ∃ N' a', lr_Y r N N' ∧ (∀ e, lr_cz b n a = .inl e → f_X3_readClause (tp_m N a (-1)) = some (iI 0, tp_m N' a' e)) ∧ ∀ y, lr_cz b n a = .inr y → lr_K r (lr_fl (l ++ [y.2])) N' ∧ lr_E r (l ++ [y.2]) N' ∧ f_X3_readClause (tp_m N a (-1)) = some (iI 1, tp_m N' y.1 (-1)) := by
  have w1 := w.1
  have hs := tp_s_b (b := b) ha
  have hl2 := tp_l_b (a := a) w
  have e1 := c_look (t := -1) w K ha
  by_cases c : tp_l b n a = 121 ∨ tp_l b n a = 118
  · have e2 := c_step1 (t := -1) w K (a := tp_s b n a) (by omega)
    have e4 := c_take w K (a := tp_s b n a + 1) (by omega) (c := 58) (by decide)
    have hs2 := tp_s_b (b := b) (n := n) (a := tp_s b n a + 1) (by omega)
    have hl3 := tp_l_b (a := tp_s b n a + 1) w
    by_cases c2 : tp_l b n (tp_s b n a + 1) = 58
    · rw [if_pos c2] at e4
      have eW : ∀ a' t', gs_ckW (tp_m N a' t' 104 1).toNatClampNeg = some r := fun a' t' => c_ckW hr hN (fun _ _ _ _ => rfl)
      obtain ⟨N1, e5, y1, K1, E1⟩ := c_open (a := tp_s b n (tp_s b n a + 1) + 1) (t := -1) (x := (tp_l b n a, [], (fun _ => 1), [], fun _ => 1)) (kd := tp_l b n a) hr hK hE hl rfl rfl
      obtain ⟨N2, a2, m0, m1, m2⟩ := c_body w hr (y1.K hr K) (y1.h hr hN) (p := tp_s b n (tp_s b n a + 1) + 1) (by omega) K1 (by omega) E1 rfl rfl hl
      have e : lr_cz b n a = lr_bo b n (tp_l b n a) (tp_s b n (tp_s b n a + 1) + 1) := by
        unfold lr_cz
        rw [if_pos c, if_pos c2]
      rw [e]
      refine ⟨N2, a2, y1.tr m0, fun e h => ?_, fun y h => ?_⟩
      · have m3 := m1 e h
        rw [cl_eq]
        rcases c with c | c
        · rw [c] at e5
          simp (disch := omega) only [qn0, qn1, qn2, qn3, qn4, qn5, qn6, qn7, qn8, qn9, qn10, qn11, qn12, qn13, qn14, qn15, qn16, qn17, qn18, qn24, qn30, qn31, qn32, qn33, qn36, qn38, qn40, qn41, qn42, qn43, qn45, qn47, qn48, qn49, qn50, qn51, qn52, qn53, qn57, qn58, qn59, qn60, qn61, qn62, qn63, qn91, qn93, qn97, qn99, qn100, qn103, qn104, qn112, qn113, qn115, qn116, qn118, qn119, qn121, qn124, qn173, qn177, qn240, qn255, qn295, qn352, qn353, qn533, qn999, qn1000, qn1023, qn6561, qn10000, qn20787, qn1000000, qn252645135, qn858993459, qn1000000000, qn1431655765, q_s1, q_s2, q_s3, q_s4, q_s5, iI_add, iI_sub, iI_mul, iI_neg, q_lt, q_le, q_eq, qz0, qz1, qz2, qz3, if_pos, if_neg, reduceIte, e1, c, e2, e4, eW, e5, m3]
        · rw [c] at e5
          simp (disch := omega) only [qn0, qn1, qn2, qn3, qn4, qn5, qn6, qn7, qn8, qn9, qn10, qn11, qn12, qn13, qn14, qn15, qn16, qn17, qn18, qn24, qn30, qn31, qn32, qn33, qn36, qn38, qn40, qn41, qn42, qn43, qn45, qn47, qn48, qn49, qn50, qn51, qn52, qn53, qn57, qn58, qn59, qn60, qn61, qn62, qn63, qn91, qn93, qn97, qn99, qn100, qn103, qn104, qn112, qn113, qn115, qn116, qn118, qn119, qn121, qn124, qn173, qn177, qn240, qn255, qn295, qn352, qn353, qn533, qn999, qn1000, qn1023, qn6561, qn10000, qn20787, qn1000000, qn252645135, qn858993459, qn1000000000, qn1431655765, q_s1, q_s2, q_s3, q_s4, q_s5, iI_add, iI_sub, iI_mul, iI_neg, q_lt, q_le, q_eq, qz0, qz1, qz2, qz3, if_pos, if_neg, reduceIte, e1, c, e2, e4, eW, e5, m3]
      · obtain ⟨m3, m4, m5⟩ := m2 y h
        refine ⟨m3, m4, ?_⟩
        rw [cl_eq]
        rcases c with c | c
        · rw [c] at e5
          simp (disch := omega) only [qn0, qn1, qn2, qn3, qn4, qn5, qn6, qn7, qn8, qn9, qn10, qn11, qn12, qn13, qn14, qn15, qn16, qn17, qn18, qn24, qn30, qn31, qn32, qn33, qn36, qn38, qn40, qn41, qn42, qn43, qn45, qn47, qn48, qn49, qn50, qn51, qn52, qn53, qn57, qn58, qn59, qn60, qn61, qn62, qn63, qn91, qn93, qn97, qn99, qn100, qn103, qn104, qn112, qn113, qn115, qn116, qn118, qn119, qn121, qn124, qn173, qn177, qn240, qn255, qn295, qn352, qn353, qn533, qn999, qn1000, qn1023, qn6561, qn10000, qn20787, qn1000000, qn252645135, qn858993459, qn1000000000, qn1431655765, q_s1, q_s2, q_s3, q_s4, q_s5, iI_add, iI_sub, iI_mul, iI_neg, q_lt, q_le, q_eq, qz0, qz1, qz2, qz3, if_pos, if_neg, reduceIte, e1, c, e2, e4, eW, e5, m5]
        · rw [c] at e5
          simp (disch := omega) only [qn0, qn1, qn2, qn3, qn4, qn5, qn6, qn7, qn8, qn9, qn10, qn11, qn12, qn13, qn14, qn15, qn16, qn17, qn18, qn24, qn30, qn31, qn32, qn33, qn36, qn38, qn40, qn41, qn42, qn43, qn45, qn47, qn48, qn49, qn50, qn51, qn52, qn53, qn57, qn58, qn59, qn60, qn61, qn62, qn63, qn91, qn93, qn97, qn99, qn100, qn103, qn104, qn112, qn113, qn115, qn116, qn118, qn119, qn121, qn124, qn173, qn177, qn240, qn255, qn295, qn352, qn353, qn533, qn999, qn1000, qn1023, qn6561, qn10000, qn20787, qn1000000, qn252645135, qn858993459, qn1000000000, qn1431655765, q_s1, q_s2, q_s3, q_s4, q_s5, iI_add, iI_sub, iI_mul, iI_neg, q_lt, q_le, q_eq, qz0, qz1, qz2, qz3, if_pos, if_neg, reduceIte, e1, c, e2, e4, eW, e5, m5]
    · rw [if_neg c2] at e4
      have e : lr_cz b n a = .inl (tp_s b n (tp_s b n a + 1)) := by
        unfold lr_cz
        rw [if_pos c, if_neg c2]
      rw [e]
      refine ⟨N, tp_s b n (tp_s b n a + 1), lr_Y.rf, fun e h => ?_, fun y h => (by cases h)⟩
      cases h
      rw [cl_eq]
      rcases c with c | c
      · simp (disch := omega) only [qn0, qn1, qn2, qn3, qn4, qn5, qn6, qn7, qn8, qn9, qn10, qn11, qn12, qn13, qn14, qn15, qn16, qn17, qn18, qn24, qn30, qn31, qn32, qn33, qn36, qn38, qn40, qn41, qn42, qn43, qn45, qn47, qn48, qn49, qn50, qn51, qn52, qn53, qn57, qn58, qn59, qn60, qn61, qn62, qn63, qn91, qn93, qn97, qn99, qn100, qn103, qn104, qn112, qn113, qn115, qn116, qn118, qn119, qn121, qn124, qn173, qn177, qn240, qn255, qn295, qn352, qn353, qn533, qn999, qn1000, qn1023, qn6561, qn10000, qn20787, qn1000000, qn252645135, qn858993459, qn1000000000, qn1431655765, q_s1, q_s2, q_s3, q_s4, q_s5, iI_add, iI_sub, iI_mul, iI_neg, q_lt, q_le, q_eq, qz0, qz1, qz2, qz3, if_pos, if_neg, reduceIte, e1, c, e2, e4]
      · simp (disch := omega) only [qn0, qn1, qn2, qn3, qn4, qn5, qn6, qn7, qn8, qn9, qn10, qn11, qn12, qn13, qn14, qn15, qn16, qn17, qn18, qn24, qn30, qn31, qn32, qn33, qn36, qn38, qn40, qn41, qn42, qn43, qn45, qn47, qn48, qn49, qn50, qn51, qn52, qn53, qn57, qn58, qn59, qn60, qn61, qn62, qn63, qn91, qn93, qn97, qn99, qn100, qn103, qn104, qn112, qn113, qn115, qn116, qn118, qn119, qn121, qn124, qn173, qn177, qn240, qn255, qn295, qn352, qn353, qn533, qn999, qn1000, qn1023, qn6561, qn10000, qn20787, qn1000000, qn252645135, qn858993459, qn1000000000, qn1431655765, q_s1, q_s2, q_s3, q_s4, q_s5, iI_add, iI_sub, iI_mul, iI_neg, q_lt, q_le, q_eq, qz0, qz1, qz2, qz3, if_pos, if_neg, reduceIte, e1, c, e2, e4]
  · have ef := c_fail (M := N) (a := tp_s b n a)
    have e : lr_cz b n a = .inl (tp_s b n a) := by
      unfold lr_cz
      rw [if_neg c]
    rw [e]
    refine ⟨N, tp_s b n a, lr_Y.rf, fun e h => ?_, fun y h => (by cases h)⟩
    cases h
    rw [cl_eq]
    simp (disch := omega) only [qn0, qn1, qn2, qn3, qn4, qn5, qn6, qn7, qn8, qn9, qn10, qn11, qn12, qn13, qn14, qn15, qn16, qn17, qn18, qn24, qn30, qn31, qn32, qn33, qn36, qn38, qn40, qn41, qn42, qn43, qn45, qn47, qn48, qn49, qn50, qn51, qn52, qn53, qn57, qn58, qn59, qn60, qn61, qn62, qn63, qn91, qn93, qn97, qn99, qn100, qn103, qn104, qn112, qn113, qn115, qn116, qn118, qn119, qn121, qn124, qn173, qn177, qn240, qn255, qn295, qn352, qn353, qn533, qn999, qn1000, qn1023, qn6561, qn10000, qn20787, qn1000000, qn252645135, qn858993459, qn1000000000, qn1431655765, q_s1, q_s2, q_s3, q_s4, q_s5, iI_add, iI_sub, iI_mul, iI_neg, q_lt, q_le, q_eq, qz0, qz1, qz2, qz3, if_pos, if_neg, reduceIte, e1, ef]
def lr_go (b : Nat → Int) (n d p : Nat) (l : List lr_L) : Nat ⊕ List lr_L := if tp_l b n p = 59 then lr_al b n d (tp_s b n p + 1) l else if tp_l b n p = -1 then .inr l else .inl (tp_s b n p)
theorem lr_al_e {d : Nat} {u : Nat} (h : lr_cz b n a = .inl u) : lr_al b n (d + 1) a l = .inl u := by simp only [lr_al, h]
theorem lr_al_r {d : Nat} {y : Nat × lr_L} (h : lr_cz b n a = .inr y) : lr_al b n (d + 1) a l = lr_go b n d y.1 (l ++ [y.2]) := by simp only [lr_al, h, lr_go]
def rd_T (R : Option (Int32 × Int32 × gs_M)) : Option (Int32 × gs_M) :=
  gs_b3 R fun y12 y13 M14 =>
  gs_b1 (if y12 = (0 : Int32) then
  some (M14)
  else
  gs_b2 (f_X7_look M14) fun v20 M21 =>
  if v20 = (-1 : Int32) then
  some (M21)
  else
  gs_b2 (f_X7_fail M21) fun v24 M25 =>
  some (M25)) fun M16 =>
  gs_b1 (f_X7_firstFault M16) fun v27 =>
  some (v27, M16)
theorem rd_eq (M : gs_M) (r1 : Nat) : f_X3_read M r1 =
  gs_b1 (some (gs_up M 104 1 (nI r1))) fun M2 =>
  gs_b1 (gs_ckW (M2 104 1).toNatClampNeg) fun r3 =>
  gs_b1 (f_X2_clear M2 r3) fun M5 =>
  gs_b1 (f_X7_rewind M5) fun M7 =>
  gs_b2 (f_X3_readClause M7) fun v9 M10 =>
  rd_T (l_X3_read_26 r1 gs_FU v9 (0 : Int32) M10) := rfl
theorem c_ff : f_X7_firstFault (tp_m N a t) = some (iI t) := rfl
theorem rd_T0 (j : Int32) : rd_T (some (iI 0, j, tp_m N a t)) = some (iI t, tp_m N a t) := by
  unfold rd_T
  simp (disch := omega) only [qn0, qn1, qn2, qn3, qn4, qn5, qn6, qn7, qn8, qn9, qn10, qn11, qn12, qn13, qn14, qn15, qn16, qn17, qn18, qn24, qn30, qn31, qn32, qn33, qn36, qn38, qn40, qn41, qn42, qn43, qn45, qn47, qn48, qn49, qn50, qn51, qn52, qn53, qn57, qn58, qn59, qn60, qn61, qn62, qn63, qn91, qn93, qn97, qn99, qn100, qn103, qn104, qn112, qn113, qn115, qn116, qn118, qn119, qn121, qn124, qn173, qn177, qn240, qn255, qn295, qn352, qn353, qn533, qn999, qn1000, qn1023, qn6561, qn10000, qn20787, qn1000000, qn252645135, qn858993459, qn1000000000, qn1431655765, q_s1, q_s2, q_s3, q_s4, q_s5, iI_add, iI_sub, iI_mul, iI_neg, q_lt, q_le, q_eq, qz0, qz1, qz2, qz3, if_pos, if_neg, reduceIte, c_ff]
theorem c_l26s {f : Nat} {i : Nat} (r1 : Nat) (Z : gs_M) : l_X3_read_26 r1 (f + 1) (iI 0) (iI (i : Int)) Z = some (iI 0, iI (i : Int), Z) := by
  simp only [l_X3_read_26]
  by_cases c : (240 : Int32) ≤ iI (i : Int)
  · rw [if_pos c]
  · rw [if_neg c, if_pos (by rfl)]
set_option maxHeartbeats 20000000 in
theorem c_lpR (w : tp_w b n) (hr : lr_r r) : ∀ (d i f p : Nat) (l : List lr_L) (N : gs_M), tp_K b n N → N 104 1 = nI r → lr_K r (lr_fl l) N → lr_E r l N → p ≤ n → (lr_fl l).length ≤ p → 4 * l.length ≤ p + 1 → n < p + d → i < p → d < f → ∃ N' a', lr_Y r N N' ∧ (∀ e, lr_go b n d p l = .inl e → rd_T (l_X3_read_26 r f (iI 1) (iI (i : Int)) (tp_m N p (-1))) = some (iI e, tp_m N' a' e)) ∧ ∀ l', lr_go b n d p l = .inr l' → lr_K r (lr_fl l') N' ∧ lr_E r l' N' ∧ rd_T (l_X3_read_26 r f (iI 1) (iI (i : Int)) (tp_m N p (-1))) = some (iI (-1), tp_m N' a' (-1)) := by
  have w1 := w.1
  intro d
  induction d with
  | zero =>
    intro i f p l N _ _ _ _ h1 _ _ h2
    omega
  | succ d ih =>
    intro i f p l N K hN hK hE hp hlen h4 hd hi hf
    obtain ⟨f, rfl⟩ : ∃ k, f = k + 1 + 1 := ⟨f - 2, by omega⟩
    have hs := tp_s_b (b := b) hp
    have hl2 := tp_l_b (a := p) w
    have e1 := c_look (t := -1) w K hp
    by_cases c : tp_l b n p = 59
    · have e2 := c_step1 (t := -1) w K (a := tp_s b n p) (by omega)
      obtain ⟨N1, a1, k0, k1, k2⟩ := c_lcl w hr K hN (a := tp_s b n p + 1) (by omega) hK (by omega) hE (by omega)
      have hg := lr_cz_g (b := b) w (a := tp_s b n p + 1) (by omega)
      have eg : lr_go b n (d + 1) p l = lr_al b n (d + 1) (tp_s b n p + 1) l := if_pos c
      rw [eg]
      match hR : lr_cz b n (tp_s b n p + 1) with
      | .inl u =>
        have k3 := k1 u hR
        rw [lr_al_e hR]
        have e3 : l_X3_read_26 r (f + 1 + 1) (iI 1) (iI (i : Int)) (tp_m N p (-1)) = some (iI 0, iI ((i + 1 : Nat) : Int), tp_m N1 a1 u) := by
          have es := c_l26s (f := f) (i := i + 1) r (tp_m N1 a1 u)
          have es' : l_X3_read_26 r (f + 1) (iI 0) (iI ((i : Int) + 1)) (tp_m N1 a1 u) = some (iI 0, iI ((i + 1 : Nat) : Int), tp_m N1 a1 u) := es
          rw [l_X3_read_26]
          simp (disch := omega) only [qn0, qn1, qn2, qn3, qn4, qn5, qn6, qn7, qn8, qn9, qn10, qn11, qn12, qn13, qn14, qn15, qn16, qn17, qn18, qn24, qn30, qn31, qn32, qn33, qn36, qn38, qn40, qn41, qn42, qn43, qn45, qn47, qn48, qn49, qn50, qn51, qn52, qn53, qn57, qn58, qn59, qn60, qn61, qn62, qn63, qn91, qn93, qn97, qn99, qn100, qn103, qn104, qn112, qn113, qn115, qn116, qn118, qn119, qn121, qn124, qn173, qn177, qn240, qn255, qn295, qn352, qn353, qn533, qn999, qn1000, qn1023, qn6561, qn10000, qn20787, qn1000000, qn252645135, qn858993459, qn1000000000, qn1431655765, q_s1, q_s2, q_s3, q_s4, q_s5, iI_add, iI_sub, iI_mul, iI_neg, q_lt, q_le, q_eq, qz0, qz1, qz2, qz3, if_pos, if_neg, reduceIte, e1, c, e2, k3, es']
        rw [e3, rd_T0]
        refine ⟨N1, a1, k0, fun e h => ?_, fun y h => (by cases h)⟩
        cases h
        rfl
      | .inr y =>
        obtain ⟨k3, k4, k5⟩ := k2 y hR
        obtain ⟨g1, g2, g3, -⟩ := hg.2 y hR
        rw [lr_al_r hR]
        obtain ⟨N2, a2, m0, m1, m2⟩ := ih (i + 1) (f + 1) y.1 (l ++ [y.2]) N1 (k0.K hr K) (k0.h hr hN) k3 k4 g2 (by rw [lr_fl_1, List.length_append]; omega) (by
          rw [List.length_append]
          simp only [List.length_cons, List.length_nil]
          omega) (by omega) (by omega) (by omega)
        have e3 : l_X3_read_26 r (f + 1 + 1) (iI 1) (iI (i : Int)) (tp_m N p (-1)) = l_X3_read_26 r (f + 1) (iI 1) (iI ((i + 1 : Nat) : Int)) (tp_m N1 y.1 (-1)) := by
          rw [l_X3_read_26]
          simp (disch := omega) only [qn0, qn1, qn2, qn3, qn4, qn5, qn6, qn7, qn8, qn9, qn10, qn11, qn12, qn13, qn14, qn15, qn16, qn17, qn18, qn24, qn30, qn31, qn32, qn33, qn36, qn38, qn40, qn41, qn42, qn43, qn45, qn47, qn48, qn49, qn50, qn51, qn52, qn53, qn57, qn58, qn59, qn60, qn61, qn62, qn63, qn91, qn93, qn97, qn99, qn100, qn103, qn104, qn112, qn113, qn115, qn116, qn118, qn119, qn121, qn124, qn173, qn177, qn240, qn255, qn295, qn352, qn353, qn533, qn999, qn1000, qn1023, qn6561, qn10000, qn20787, qn1000000, qn252645135, qn858993459, qn1000000000, qn1431655765, q_s1, q_s2, q_s3, q_s4, q_s5, iI_add, iI_sub, iI_mul, iI_neg, q_lt, q_le, q_eq, qz0, qz1, qz2, qz3, if_pos, if_neg, reduceIte, e1, c, e2, k5]
          rfl
        rw [e3]
        exact ⟨N2, a2, k0.tr m0, m1, m2⟩
    · have e3 : l_X3_read_26 r (f + 1 + 1) (iI 1) (iI (i : Int)) (tp_m N p (-1)) = some (iI 1, iI (i : Int), tp_m N (tp_s b n p) (-1)) := by
        rw [l_X3_read_26]
        simp (disch := omega) only [qn0, qn1, qn2, qn3, qn4, qn5, qn6, qn7, qn8, qn9, qn10, qn11, qn12, qn13, qn14, qn15, qn16, qn17, qn18, qn24, qn30, qn31, qn32, qn33, qn36, qn38, qn40, qn41, qn42, qn43, qn45, qn47, qn48, qn49, qn50, qn51, qn52, qn53, qn57, qn58, qn59, qn60, qn61, qn62, qn63, qn91, qn93, qn97, qn99, qn100, qn103, qn104, qn112, qn113, qn115, qn116, qn118, qn119, qn121, qn124, qn173, qn177, qn240, qn255, qn295, qn352, qn353, qn533, qn999, qn1000, qn1023, qn6561, qn10000, qn20787, qn1000000, qn252645135, qn858993459, qn1000000000, qn1431655765, q_s1, q_s2, q_s3, q_s4, q_s5, iI_add, iI_sub, iI_mul, iI_neg, q_lt, q_le, q_eq, qz0, qz1, qz2, qz3, if_pos, if_neg, reduceIte, e1]
      have e4 := c_look (t := -1) w K hs.2
      rw [tp_ll hp, tp_ss hp] at e4
      rw [e3]
      by_cases c2 : tp_l b n p = -1
      · have eg : lr_go b n (d + 1) p l = .inr l := by
          unfold lr_go
          rw [if_neg c, if_pos c2]
        rw [eg]
        refine ⟨N, tp_s b n p, lr_Y.rf, fun e h => (by cases h), fun l' h => ?_⟩
        cases h
        refine ⟨hK, hE, ?_⟩
        unfold rd_T
        simp (disch := omega) only [qn0, qn1, qn2, qn3, qn4, qn5, qn6, qn7, qn8, qn9, qn10, qn11, qn12, qn13, qn14, qn15, qn16, qn17, qn18, qn24, qn30, qn31, qn32, qn33, qn36, qn38, qn40, qn41, qn42, qn43, qn45, qn47, qn48, qn49, qn50, qn51, qn52, qn53, qn57, qn58, qn59, qn60, qn61, qn62, qn63, qn91, qn93, qn97, qn99, qn100, qn103, qn104, qn112, qn113, qn115, qn116, qn118, qn119, qn121, qn124, qn173, qn177, qn240, qn255, qn295, qn352, qn353, qn533, qn999, qn1000, qn1023, qn6561, qn10000, qn20787, qn1000000, qn252645135, qn858993459, qn1000000000, qn1431655765, q_s1, q_s2, q_s3, q_s4, q_s5, iI_add, iI_sub, iI_mul, iI_neg, q_lt, q_le, q_eq, qz0, qz1, qz2, qz3, if_pos, if_neg, reduceIte, e4, c2, c_ff]
      · have eg : lr_go b n (d + 1) p l = .inl (tp_s b n p) := by
          unfold lr_go
          rw [if_neg c, if_neg c2]
        have ef := c_fail (M := N) (a := tp_s b n p)
        rw [eg]
        refine ⟨N, tp_s b n p, lr_Y.rf, fun e h => ?_, fun l' h => (by cases h)⟩
        cases h
        unfold rd_T
        simp (disch := omega) only [qn0, qn1, qn2, qn3, qn4, qn5, qn6, qn7, qn8, qn9, qn10, qn11, qn12, qn13, qn14, qn15, qn16, qn17, qn18, qn24, qn30, qn31, qn32, qn33, qn36, qn38, qn40, qn41, qn42, qn43, qn45, qn47, qn48, qn49, qn50, qn51, qn52, qn53, qn57, qn58, qn59, qn60, qn61, qn62, qn63, qn91, qn93, qn97, qn99, qn100, qn103, qn104, qn112, qn113, qn115, qn116, qn118, qn119, qn121, qn124, qn173, qn177, qn240, qn255, qn295, qn352, qn353, qn533, qn999, qn1000, qn1023, qn6561, qn10000, qn20787, qn1000000, qn252645135, qn858993459, qn1000000000, qn1431655765, q_s1, q_s2, q_s3, q_s4, q_s5, iI_add, iI_sub, iI_mul, iI_neg, q_lt, q_le, q_eq, qz0, qz1, qz2, qz3, if_pos, if_neg, reduceIte, e4, ef, c_ff]
/-- the class reads a LAW -/
theorem c_read (w : tp_w b n) (hr : lr_r r) (K : tp_K b n M) : ∃ N' a', lr_Y r (gs_up M 104 1 (nI r)) N' ∧ (∀ e, lr_al b n 242 0 [] = .inl e → f_X3_read M r = some (iI e, tp_m N' a' e)) ∧ ∀ l, lr_al b n 242 0 [] = .inr l → lr_K r (lr_fl l) N' ∧ lr_E r l N' ∧ f_X3_read M r = some (iI (-1), tp_m N' a' (-1)) := by
  have w1 := w.1
  have hr' := hr
  unfold lr_r at hr'
  have e1 : gs_ckW (gs_up M 104 1 (nI r) 104 1).toNatClampNeg = some r := by
    rw [gs_up_eq]
    exact q_ckW r hr
  have e2 : f_X2_clear (gs_up M 104 1 (nI r)) r = some (gs_up (gs_up (gs_up M 104 1 (nI r)) r 5 (iI 0)) r 6 (iI 0)) := rfl
  have y0 : lr_Y r (gs_up M 104 1 (nI r)) (gs_up (gs_up (gs_up M 104 1 (nI r)) r 5 (iI 0)) r 6 (iI 0)) := fun x z h1 _ _ _ _ => by
    rw [ma_cell_ne _ _ _ _ _ _ (by omega), ma_cell_ne _ _ _ _ _ _ (by omega)]
  have K0 : tp_K b n (gs_up (gs_up (gs_up M 104 1 (nI r)) r 5 (iI 0)) r 6 (iI 0)) := y0.K hr (K.up _ (by decide) (by decide))
  have hN0 : gs_up (gs_up (gs_up M 104 1 (nI r)) r 5 (iI 0)) r 6 (iI 0) 104 1 = nI r := y0.h hr (gs_up_eq _ _ _ _)
  have k0 : lr_K r (lr_fl []) (gs_up (gs_up (gs_up M 104 1 (nI r)) r 5 (iI 0)) r 6 (iI 0)) := by
    refine ⟨?_, fun j hj => ?_⟩
    · rw [ma_cell_ne _ _ _ _ _ _ (by omega), gs_up_eq]
      rfl
    · have : j < 0 := hj
      omega
  have E0 : lr_E r [] (gs_up (gs_up (gs_up M 104 1 (nI r)) r 5 (iI 0)) r 6 (iI 0)) := by
    refine ⟨gs_up_eq _ _ _ _, fun j x hx => ?_⟩
    cases hx
  generalize gs_up (gs_up (gs_up M 104 1 (nI r)) r 5 (iI 0)) r 6 (iI 0) = N0 at e2 y0 K0 hN0 k0 E0
  have e3 := c_rew (M := N0)
  obtain ⟨N1, a1, g0, g1, g2⟩ := c_lcl w hr K0 hN0 (a := 0) (by omega) k0 (by show 0 ≤ 0; omega) E0 (by show 0 < 61; omega)
  have hg := lr_cz_g (b := b) w (a := 0) (by omega)
  have eq : f_X3_read M r = gs_b2 (f_X3_readClause (tp_m N0 0 (-1))) fun v9 M10 => rd_T (l_X3_read_26 r gs_FU v9 (0 : Int32) M10) := by
    rw [rd_eq]
    simp only [q_s1, e1, e2, e3]
  rw [eq]
  match hR : lr_cz b n 0 with
  | .inl u =>
    have g3 := g1 u hR
    rw [lr_al_e hR, g3, q_s2]
    have es : l_X3_read_26 r gs_FU (iI 0) (0 : Int32) (tp_m N1 a1 u) = some (iI 0, iI ((0 : Nat) : Int), tp_m N1 a1 u) := c_l26s (f := 29999) (i := 0) r (tp_m N1 a1 u)
    rw [es, rd_T0]
    refine ⟨N1, a1, y0.tr g0, fun e h => ?_, fun y h => (by cases h)⟩
    cases h
    rfl
  | .inr y =>
    obtain ⟨g3, g4, g5⟩ := g2 y hR
    obtain ⟨h1, h2, h3, -⟩ := hg.2 y hR
    rw [lr_al_r hR, g5, q_s2]
    obtain ⟨N2, a2, m0, m1, m2⟩ := c_lpR w hr 241 0 gs_FU y.1 ([] ++ [y.2]) N1 (g0.K hr K0) (g0.h hr hN0) g3 g4 h2 (by
      rw [lr_fl_1, List.length_append]
      show 0 + _ ≤ _
      omega) (by show 4 * 1 ≤ y.1 + 1; omega) (by omega) (by omega) (by decide)
    exact ⟨N2, a2, (y0.tr g0).tr m0, m1, m2⟩
end Law16
