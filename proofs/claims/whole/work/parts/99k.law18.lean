/-! the worth of a LAW, by the class -/
theorem lr_fl_2 (l k : List lr_L) : lr_fl (l ++ k) = lr_fl l ++ lr_fl k := by
  induction l with
  | nil => rfl
  | cons x l ih =>
    show x.2.1 ++ x.2.2.2.1 ++ lr_fl (l ++ k) = x.2.1 ++ x.2.2.2.1 ++ lr_fl l ++ lr_fl k
    rw [ih, List.append_assoc (x.2.1 ++ x.2.2.2.1)]
theorem lr_g3 (pre d : List Int) (j : Nat) : (pre ++ d).getD (pre.length + j) 0 = d.getD j 0 := by
  rw [List.getD_eq_getElem?_getD, List.getElem?_append_right (by omega), show pre.length + j - pre.length = j by omega, ← List.getD_eq_getElem?_getD]
section Law18
variable {r : Nat} {e : Nat → Int} {N : gs_M} {l : List lr_L} {kd : Int}
set_option maxHeartbeats 20000000 in
theorem c_worthl (hr : 107 ≠ r + 5) (hK : lr_K r (lr_fl l) N) (hE : lr_E r l N) (ho : ∀ x ∈ l, lr_ok x) (hc : (lr_fl l).length ≤ 240) (hl : l.length ≤ 61) (hk : kd = 121 ∨ kd = 118) (h3 : ∀ j, j < 6 → N 107 j = iI (e j) ∧ -1000000 ≤ e j ∧ e j ≤ 1000000) : ∀ (l2 l1 : List lr_L) (f : Nat) (N1 : gs_M), l = l1 ++ l2 → (∀ x, x ≠ r + 5 → N1 x = N x) → l2.length < f → ∃ N', l_X2_worth_2 r (iI kd) f (iI (l1.length : Nat)) N1 = some (iI (lr_wo kd e l2), N') ∧ ∀ x, x ≠ r + 5 → N' x = N x := by
  intro l2
  induction l2 with
  | nil =>
    intro l1 f N1 h1 h2 hf
    obtain ⟨f, rfl⟩ : ∃ k, f = k + 1 := ⟨f - 1, by omega⟩
    rw [List.append_nil] at h1
    subst h1
    have e6 : N1 r 6 = iI (l.length : Nat) := by rw [h2 r (by omega)]; exact hE.1
    refine ⟨N1, ?_, h2⟩
    simp only [l_X2_worth_2]
    rw [e6, if_pos (by rw [q_le (by omega)]; omega)]
    rfl
  | cons x l2 ih =>
    intro l1 f N1 h1 h2 hf
    have hf' : l2.length + 1 < f := hf
    obtain ⟨f, rfl⟩ : ∃ k, f = k + 1 := ⟨f - 1, by omega⟩
    have hll : l.length = l1.length + (l2.length + 1) := by rw [h1, List.length_append]; rfl
    have hx : l[l1.length]? = some x := by
      rw [h1, List.getElem?_append_right (Nat.le_refl _), Nat.sub_self]
      rfl
    have ht : l.take l1.length = l1 := by
      rw [h1, List.take_append_of_le_length (Nat.le_refl _), List.take_length]
    obtain ⟨g1, g2, g3⟩ := hE.2 l1.length x hx
    rw [ht] at g2 g3
    have hfl : lr_fl l = lr_fl l1 ++ (x.2.1 ++ (x.2.2.2.1 ++ lr_fl l2)) := by
      rw [h1, lr_fl_2]
      show lr_fl l1 ++ (x.2.1 ++ x.2.2.2.1 ++ lr_fl l2) = _
      rw [List.append_assoc x.2.1]
    have hfl' : (lr_fl l).length = (lr_fl l1).length + (x.2.1.length + (x.2.2.2.1.length + (lr_fl l2).length)) := by
      rw [hfl, List.length_append, List.length_append, List.length_append]
    have hko : lr_ok x := ho x (by rw [h1]; exact List.mem_append_right _ (List.mem_cons_self ..))
    obtain ⟨o1, o2, o3, o4, o5, o6⟩ := hko
    have e6 : ∀ Z : gs_M, (∀ y, y ≠ r + 5 → Z y = N y) → Z r 6 = iI ((l1.length : Int) + (l2.length + 1)) := fun Z hZ => by
      rw [hZ r (by omega), hE.1, hll]
      rfl
    have eK : ∀ Z : gs_M, (∀ y, y ≠ r + 5 → Z y = N y) → gs_rd Z (r + 4) 61 (iI (l1.length : Nat)) = some (iI x.1) := fun Z hZ => by
      rw [q_rdn l1.length rfl (by omega) (by decide), hZ _ (by omega), g1]
    have eS : ∀ Z : gs_M, (∀ y, y ≠ r + 5 → Z y = N y) → gs_rd Z (r + 3) 61 (iI (l1.length : Nat)) = some (iI (((lr_fl l1).length + x.2.1.length : Nat) : Int)) := fun Z hZ => by
      rw [q_rdn l1.length rfl (by omega) (by decide), hZ _ (by omega), g3]
    have eB : ∀ Z : gs_M, (∀ y, y ≠ r + 5 → Z y = N y) → gs_rd Z (r + 2) 61 (iI (l1.length : Nat)) = some (iI ((lr_fl l1).length : Nat)) := fun Z hZ => by
      rw [q_rdn l1.length rfl (by omega) (by decide), hZ _ (by omega), g2]
    have hnext : ∀ Z : gs_M, (∀ y, y ≠ r + 5 → Z y = N y) → ∃ N', l_X2_worth_2 r (iI kd) f (iI ((l1.length : Int) + 1)) Z = some (iI (lr_wo kd e l2), N') ∧ ∀ x, x ≠ r + 5 → N' x = N x := fun Z hZ => by
      have := ih (l1 ++ [x]) f Z (by rw [h1, List.append_assoc]; rfl) hZ (by omega)
      rw [List.length_append] at this
      exact this
    have hcode : ∀ (Z : gs_M), (∀ y, y ≠ r + 5 → Z y = N y) → (∀ j, j < x.2.1.length → Z (r + 1) ((lr_fl l1).length + j) = iI (x.2.1.getD j 0)) ∧ ∀ j, j < x.2.2.2.1.length → Z (r + 1) ((lr_fl l1).length + x.2.1.length + j) = iI (x.2.2.2.1.getD j 0) := fun Z hZ => by
      refine ⟨fun j hj => ?_, fun j hj => ?_⟩
      · rw [hZ _ (by omega), hK.2 _ (by omega), hfl, lr_g3, lr_g2 _ _ hj]
      · rw [hZ _ (by omega), hK.2 _ (by omega), hfl, Nat.add_assoc, lr_g3, lr_g3, lr_g2 _ _ hj]
    have hL : ∀ (Z : gs_M), (∀ y, y ≠ r + 5 → Z y = N y) → ∀ j, j < 6 → Z 107 j = iI (e j) ∧ -1000000 ≤ e j ∧ e j ≤ 1000000 := fun Z hZ j hj => by
      rw [hZ 107 hr]
      exact h3 j hj
    have hrule : ∀ Z : gs_M, (∀ y, y ≠ r + 5 → Z y = N y) → ∃ N', (gs_b1 (if (Z r 6) ≤ iI ((l1.length : Int) + 1) then some (Z r 5) else gs_b1 (gs_rd Z (r + 2) 61 (iI ((l1.length : Int) + 1))) fun v29 => some (v29)) fun y25 => gs_b2 (f_X2_run Z r (iI (((lr_fl l1).length + x.2.1.length : Nat) : Int)) y25) fun v31 M32 => some (v31, M32)) = some (iI (x.2.2.2.2 e), N') ∧ ∀ x, x ≠ r + 5 → N' x = N x := fun Z hZ => by
      obtain ⟨N', k1, k2⟩ := c_run1 (r := r) (e := e) (m := (lr_fl l1).length + x.2.1.length + x.2.2.2.1.length) o3 rfl (hcode Z hZ).2 (fun z hz => o4 z (List.mem_append_right _ hz)) (hL Z hZ) hr (by omega)
      refine ⟨N', ?_, fun y hy => (k2 y hy).trans (hZ y hy)⟩
      rw [e6 Z hZ]
      by_cases c2 : l2 = []
      · have e5 : Z r 5 = iI (((lr_fl l1).length + x.2.1.length + x.2.2.2.1.length : Nat) : Int) := by
          rw [hZ r (by omega), hK.1, hfl', c2]
          congr 2
          show (lr_fl l1).length + (x.2.1.length + (x.2.2.2.1.length + 0)) = _
          omega
        subst c2
        have hc0 : iI ((l1.length : Int) + ((([] : List lr_L).length : Nat) + 1)) ≤ iI ((l1.length : Int) + 1) := by
          rw [q_le (by simp only [List.length_nil]; omega)]
          simp only [List.length_nil]
          omega
        rw [if_pos hc0, e5]
        simp (disch := omega) only [qn0, qn1, qn2, qn3, qn4, qn5, qn6, qn7, qn8, qn9, qn10, qn11, qn12, qn13, qn14, qn15, qn16, qn17, qn18, qn24, qn30, qn31, qn32, qn33, qn36, qn38, qn40, qn41, qn42, qn43, qn45, qn47, qn48, qn49, qn50, qn51, qn52, qn53, qn57, qn58, qn59, qn60, qn61, qn62, qn63, qn91, qn93, qn97, qn99, qn100, qn103, qn104, qn112, qn113, qn115, qn116, qn118, qn119, qn121, qn124, qn173, qn177, qn240, qn255, qn295, qn352, qn353, qn533, qn999, qn1000, qn1023, qn6561, qn10000, qn20787, qn1000000, qn252645135, qn858993459, qn1000000000, qn1431655765, q_s1, q_s2, q_s3, q_s4, q_s5, iI_add, iI_sub, iI_mul, iI_neg, q_lt, q_le, q_eq, qz0, qz1, qz2, qz3, if_pos, if_neg, reduceIte, k1]
      · have hp : 0 < l2.length := List.length_pos_iff.2 c2
        obtain ⟨y, l3, rfl⟩ : ∃ y l3, l2 = y :: l3 := by
          cases l2 with
          | nil => exact absurd rfl c2
          | cons y l3 => exact ⟨y, l3, rfl⟩
        have hy : l[l1.length + 1]? = some y := by
          rw [h1, List.getElem?_append_right (by omega), show l1.length + 1 - l1.length = 1 by omega]
          rfl
        have ht2 : l.take (l1.length + 1) = l1 ++ [x] := by
          have e7 : l = (l1 ++ [x]) ++ (y :: l3) := by rw [h1, List.append_assoc]; rfl
          have e8 : (l1 ++ [x]).length = l1.length + 1 := by rw [List.length_append]; rfl
          rw [e7, ← e8, List.take_append_of_le_length (Nat.le_refl _), List.take_length]
        obtain ⟨-, g5, -⟩ := hE.2 (l1.length + 1) y hy
        rw [ht2, lr_fl_1, List.length_append, List.length_append] at g5
        have e9 : gs_rd Z (r + 2) 61 (iI ((l1.length : Int) + 1)) = some (iI (((lr_fl l1).length + x.2.1.length + x.2.2.2.1.length : Nat) : Int)) := by
          rw [q_rdn (l1.length + 1) (by omega) (by omega) (by decide), hZ _ (by omega), g5, Nat.add_assoc]
        have hc0 : ¬ iI ((l1.length : Int) + (((y :: l3).length : Nat) + 1)) ≤ iI ((l1.length : Int) + 1) := by
          rw [q_le (by omega)]
          omega
        rw [if_neg hc0, e9]
        simp (disch := omega) only [qn0, qn1, qn2, qn3, qn4, qn5, qn6, qn7, qn8, qn9, qn10, qn11, qn12, qn13, qn14, qn15, qn16, qn17, qn18, qn24, qn30, qn31, qn32, qn33, qn36, qn38, qn40, qn41, qn42, qn43, qn45, qn47, qn48, qn49, qn50, qn51, qn52, qn53, qn57, qn58, qn59, qn60, qn61, qn62, qn63, qn91, qn93, qn97, qn99, qn100, qn103, qn104, qn112, qn113, qn115, qn116, qn118, qn119, qn121, qn124, qn173, qn177, qn240, qn255, qn295, qn352, qn353, qn533, qn999, qn1000, qn1023, qn6561, qn10000, qn20787, qn1000000, qn252645135, qn858993459, qn1000000000, qn1431655765, q_s1, q_s2, q_s3, q_s4, q_s5, iI_add, iI_sub, iI_mul, iI_neg, q_lt, q_le, q_eq, qz0, qz1, qz2, qz3, if_pos, if_neg, reduceIte, k1]
    have e6' := e6 N1 h2
    have hlt : ¬ iI ((l1.length : Int) + (l2.length + 1)) ≤ iI (l1.length : Nat) := by
      rw [q_le (by omega)]
      omega
    by_cases ck : x.1 = kd
    · rcases o2 with ⟨p1, p2⟩ | ⟨p1, p2⟩
      · obtain ⟨N', k1, k2⟩ := hrule N1 h2
        have ew : lr_wo kd e (x :: l2) = x.2.2.2.2 e := by
          unfold lr_wo
          rw [if_pos ⟨ck, by rw [p2]; exact (by decide : (1 : Int) ≠ 0)⟩]
        refine ⟨N', ?_, k2⟩
        have p1' : x.2.1.length = 0 := by rw [p1]; rfl
        have eS' := eS N1 h2
        rw [p1', Nat.add_zero] at eS' k1
        rw [l_X2_worth_2, e6', if_neg hlt, ew, ← k1]
        simp (disch := omega) only [qn0, qn1, qn2, qn3, qn4, qn5, qn6, qn7, qn8, qn9, qn10, qn11, qn12, qn13, qn14, qn15, qn16, qn17, qn18, qn24, qn30, qn31, qn32, qn33, qn36, qn38, qn40, qn41, qn42, qn43, qn45, qn47, qn48, qn49, qn50, qn51, qn52, qn53, qn57, qn58, qn59, qn60, qn61, qn62, qn63, qn91, qn93, qn97, qn99, qn100, qn103, qn104, qn112, qn113, qn115, qn116, qn118, qn119, qn121, qn124, qn173, qn177, qn240, qn255, qn295, qn352, qn353, qn533, qn999, qn1000, qn1023, qn6561, qn10000, qn20787, qn1000000, qn252645135, qn858993459, qn1000000000, qn1431655765, q_s1, q_s2, q_s3, q_s4, q_s5, iI_add, iI_sub, iI_mul, iI_neg, q_lt, q_le, q_eq, qz0, qz1, qz2, qz3, if_pos, if_neg, reduceIte, eK N1 h2, ck, eS', eB N1 h2, e6']
      · have hpos : 0 < x.2.1.length := List.length_pos_iff.2 p1
        obtain ⟨N2, k1, k2⟩ := c_run1 (r := r) (e := e) (m := (lr_fl l1).length + x.2.1.length) p2 rfl (hcode N1 h2).1 (fun z hz => o4 z (List.mem_append_left _ hz)) (hL N1 h2) hr (by omega)
        have h2' : ∀ y, y ≠ r + 5 → N2 y = N y := fun y hy => (k2 y hy).trans (h2 y hy)
        have o6' := o6 e
        by_cases cv : x.2.2.1 e = 0
        · obtain ⟨N', m1, m2⟩ := hnext N2 h2'
          have ew : lr_wo kd e (x :: l2) = lr_wo kd e l2 := by
            rw [lr_wo, if_neg (fun hh => hh.2 cv)]
          refine ⟨N', ?_, m2⟩
          rw [l_X2_worth_2, e6', if_neg hlt, ew]
          simp (disch := omega) only [qn0, qn1, qn2, qn3, qn4, qn5, qn6, qn7, qn8, qn9, qn10, qn11, qn12, qn13, qn14, qn15, qn16, qn17, qn18, qn24, qn30, qn31, qn32, qn33, qn36, qn38, qn40, qn41, qn42, qn43, qn45, qn47, qn48, qn49, qn50, qn51, qn52, qn53, qn57, qn58, qn59, qn60, qn61, qn62, qn63, qn91, qn93, qn97, qn99, qn100, qn103, qn104, qn112, qn113, qn115, qn116, qn118, qn119, qn121, qn124, qn173, qn177, qn240, qn255, qn295, qn352, qn353, qn533, qn999, qn1000, qn1023, qn6561, qn10000, qn20787, qn1000000, qn252645135, qn858993459, qn1000000000, qn1431655765, q_s1, q_s2, q_s3, q_s4, q_s5, iI_add, iI_sub, iI_mul, iI_neg, q_lt, q_le, q_eq, qz0, qz1, qz2, qz3, if_pos, if_neg, reduceIte, eK N1 h2, ck, eS N1 h2, eB N1 h2, k1, cv, m1]
        · obtain ⟨N', m1, m2⟩ := hrule N2 h2'
          have ew : lr_wo kd e (x :: l2) = x.2.2.2.2 e := by
            rw [lr_wo, if_pos ⟨ck, cv⟩]
          refine ⟨N', ?_, m2⟩
          rw [l_X2_worth_2, e6', if_neg hlt, ew, ← m1]
          simp (disch := omega) only [qn0, qn1, qn2, qn3, qn4, qn5, qn6, qn7, qn8, qn9, qn10, qn11, qn12, qn13, qn14, qn15, qn16, qn17, qn18, qn24, qn30, qn31, qn32, qn33, qn36, qn38, qn40, qn41, qn42, qn43, qn45, qn47, qn48, qn49, qn50, qn51, qn52, qn53, qn57, qn58, qn59, qn60, qn61, qn62, qn63, qn91, qn93, qn97, qn99, qn100, qn103, qn104, qn112, qn113, qn115, qn116, qn118, qn119, qn121, qn124, qn173, qn177, qn240, qn255, qn295, qn352, qn353, qn533, qn999, qn1000, qn1023, qn6561, qn10000, qn20787, qn1000000, qn252645135, qn858993459, qn1000000000, qn1431655765, q_s1, q_s2, q_s3, q_s4, q_s5, iI_add, iI_sub, iI_mul, iI_neg, q_lt, q_le, q_eq, qz0, qz1, qz2, qz3, if_pos, if_neg, reduceIte, eK N1 h2, ck, eS N1 h2, eB N1 h2, k1, eS N2 h2', e6 N2 h2']
    · obtain ⟨N', m1, m2⟩ := hnext N1 h2
      have ew : lr_wo kd e (x :: l2) = lr_wo kd e l2 := by
        rw [lr_wo, if_neg (fun hh => ck hh.1)]
      refine ⟨N', ?_, m2⟩
      rw [l_X2_worth_2, e6', if_neg hlt, ew]
      simp (disch := omega) only [qn0, qn1, qn2, qn3, qn4, qn5, qn6, qn7, qn8, qn9, qn10, qn11, qn12, qn13, qn14, qn15, qn16, qn17, qn18, qn24, qn30, qn31, qn32, qn33, qn36, qn38, qn40, qn41, qn42, qn43, qn45, qn47, qn48, qn49, qn50, qn51, qn52, qn53, qn57, qn58, qn59, qn60, qn61, qn62, qn63, qn91, qn93, qn97, qn99, qn100, qn103, qn104, qn112, qn113, qn115, qn116, qn118, qn119, qn121, qn124, qn173, qn177, qn240, qn255, qn295, qn352, qn353, qn533, qn999, qn1000, qn1023, qn6561, qn10000, qn20787, qn1000000, qn252645135, qn858993459, qn1000000000, qn1431655765, q_s1, q_s2, q_s3, q_s4, q_s5, iI_add, iI_sub, iI_mul, iI_neg, q_lt, q_le, q_eq, qz0, qz1, qz2, qz3, if_pos, if_neg, reduceIte, eK N1 h2, m1]
theorem c_worth (hr : 107 ≠ r + 5) (hK : lr_K r (lr_fl l) N) (hE : lr_E r l N) (ho : ∀ x ∈ l, lr_ok x) (hc : (lr_fl l).length ≤ 240) (hl : l.length ≤ 61) (hk : kd = 121 ∨ kd = 118) (h3 : ∀ j, j < 6 → N 107 j = iI (e j) ∧ -1000000 ≤ e j ∧ e j ≤ 1000000) : ∃ N', f_X2_worth N r (iI kd) = some (iI (lr_wo kd e l), N') ∧ ∀ x, x ≠ r + 5 → N' x = N x := c_worthl hr hK hE ho hc hl hk h3 l [] gs_FU N rfl (fun _ _ => rfl) (by show l.length < 30000; omega)
end Law18
