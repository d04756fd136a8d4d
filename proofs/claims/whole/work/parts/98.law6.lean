/-! atoms and comparisons read by the class -/
theorem q_sp2 : ∀ z : Nat, z < 256 → gs_spot 2 ((Int32.toUInt32 (iI z) % 65536).toInt32) = iI (lr_ix z) := by decide +kernel
section Law6
variable {b : Nat → Int} {n r : Nat} {M N : gs_M} {S : Nat → lr_R} {pre : List Int}
theorem tp_n_s {a q : Nat} (ha : a ≤ n) : tp_n b n q (tp_s b n a) = tp_n b n q a := by
  unfold tp_n
  rw [tp_ss ha, tp_ll ha]
theorem c_num4 {a : Nat} (w : tp_w b n) (K : tp_K b n N) (ha : a ≤ n) : f_X7_number (tp_m N (tp_s b n a) (-1)) (iI 4) = some (match tp_n b n 4 a with | .inl e => (iI (-1), tp_m N e e) | .inr (a', v) => (iI v, tp_m N a' (-1))) := by
  have h1 := tp_s_b (b := b) ha
  have := c_num w K h1.2 (q := 4) (by decide)
  rw [tp_n_s ha] at this
  exact this
theorem c_atom (w : tp_w b n) (hr : lr_r r) (K : tp_K b n M) (hM : M 104 1 = nI r) {G : Nat → Int32 → gs_M → Option (Int32 × gs_M)} {dp H : Nat} {I : Option (Nat → lr_R)} (hI : (dp = 6 ∧ I = none) ∨ (dp < 6 ∧ ∃ S, I = some S ∧ lr_cg b n r M (fun Z => G 0 (iI ((dp : Int) + 1)) Z) S ∧ lr_gd n H lr_num S)) : lr_cg b n r M (fun Z => f_X3_readAtom G Z (iI (dp : Int))) (lr_atom b n I) := by
  intro a N pre ha hX hK hlen
  have w1 := w.1
  have KN := hX.K hr K
  have hs := tp_s_b (b := b) ha
  have hl := tp_l_b (a := a) w
  have hi := lr_ix_b (tp_l b n a)
  have e1 := c_look (t := -1) w KN ha
  have ef := c_fail (M := N) (a := tp_s b n a)
  have hn := tp_n4 w ha
  have eW : ∀ a' t', gs_ckW (tp_m N a' t' 104 1).toNatClampNeg = some r := fun a' t' => c_ckW hr hM hX
  by_cases c : lr_ix (tp_l b n a) ≠ -1
  · have e : lr_atom b n I a = .inr (tp_s b n a + 1, [10000 + lr_ix (tp_l b n a)], fun e => e (lr_ix (tp_l b n a)).toNat) := if_pos c
    have hsn : tp_s b n a < n ∧ 1 ≤ tp_l b n a ∧ tp_l b n a ≤ 255 := by
      rcases hl with c5 | c5
      · rw [c5.1] at c
        exact absurd rfl c
      · exact ⟨c5.2.2.1, c5.1, c5.2.1⟩
    have c91 : tp_l b n a ≠ 91 := fun h => by
      rw [h] at c
      exact absurd rfl c
    have e2 := c_step1 (t := -1) w KN (a := tp_s b n a) hsn.1
    have e3 := q_sp2 (tp_l b n a).toNat (by omega)
    rw [show (((tp_l b n a).toNat : Nat) : Int) = tp_l b n a by omega] at e3
    obtain ⟨N2, p1, p2, p3⟩ := c_lput (a := tp_s b n a + 1) (t := -1) hr hK (by omega) (10000 + lr_ix (tp_l b n a))
    rw [e]
    refine ⟨N2, 0, hX.tr p3, fun u h => (by cases h), fun q h => ?_⟩
    cases h
    refine ⟨p2, ?_⟩
    unfold f_X3_readAtom
    simp (disch := omega) only [qn0, qn1, qn2, qn3, qn4, qn5, qn6, qn7, qn8, qn9, qn10, qn11, qn12, qn13, qn14, qn15, qn16, qn17, qn18, qn24, qn30, qn31, qn32, qn33, qn36, qn38, qn40, qn41, qn42, qn43, qn45, qn47, qn48, qn49, qn50, qn51, qn52, qn53, qn57, qn58, qn59, qn60, qn61, qn62, qn63, qn91, qn93, qn97, qn99, qn100, qn103, qn104, qn112, qn113, qn115, qn116, qn118, qn119, qn121, qn124, qn173, qn177, qn240, qn255, qn295, qn352, qn353, qn533, qn999, qn1000, qn1023, qn6561, qn10000, qn20787, qn1000000, qn252645135, qn858993459, qn1000000000, qn1431655765, q_s1, q_s2, q_s3, q_s4, q_s5, iI_add, iI_sub, iI_mul, iI_neg, q_lt, q_le, q_eq, qz0, qz1, qz2, qz3, if_pos, if_neg, reduceIte, e1, e2, e3, eW, p1]
  · have c0 : lr_ix (tp_l b n a) = -1 := by omega
    by_cases c2 : tp_l b n a = 91
    · rcases hI with ⟨h6, rfl⟩ | ⟨h6, S, rfl, hS, hSg⟩
      · have e : lr_atom b n none a = .inl (tp_s b n a) := by
          unfold lr_atom
          rw [if_neg c, if_pos c2]
        rw [e]
        refine ⟨N, tp_s b n a, hX, fun u h => ?_, fun q h => (by cases h)⟩
        cases h
        refine ⟨hK.cnt (by omega), ?_⟩
        unfold f_X3_readAtom
        simp (disch := omega) only [qn0, qn1, qn2, qn3, qn4, qn5, qn6, qn7, qn8, qn9, qn10, qn11, qn12, qn13, qn14, qn15, qn16, qn17, qn18, qn24, qn30, qn31, qn32, qn33, qn36, qn38, qn40, qn41, qn42, qn43, qn45, qn47, qn48, qn49, qn50, qn51, qn52, qn53, qn57, qn58, qn59, qn60, qn61, qn62, qn63, qn91, qn93, qn97, qn99, qn100, qn103, qn104, qn112, qn113, qn115, qn116, qn118, qn119, qn121, qn124, qn173, qn177, qn240, qn255, qn295, qn352, qn353, qn533, qn999, qn1000, qn1023, qn6561, qn10000, qn20787, qn1000000, qn252645135, qn858993459, qn1000000000, qn1431655765, q_s1, q_s2, q_s3, q_s4, q_s5, iI_add, iI_sub, iI_mul, iI_neg, q_lt, q_le, q_eq, qz0, qz1, qz2, qz3, if_pos, if_neg, reduceIte, e1, c2, ef]
      · have e : lr_atom b n (some S) a = lr_cs b n 93 (S (tp_s b n a + 1)) := by
          unfold lr_atom
          rw [if_neg c, if_pos c2]
        rw [e]
        have e2 := c_step1 (t := -1) w KN (a := tp_s b n a) (by omega)
        obtain ⟨N1, a1, k0, k1, k2⟩ := hS (tp_s b n a + 1) N pre (by omega) hX hK (by omega)
        have hg := hSg (tp_s b n a + 1) (by omega)
        match hR : S (tp_s b n a + 1) with
        | .inl u =>
          obtain ⟨k3, k4⟩ := k1 u hR
          simp only at k4
          refine ⟨N1, a1, k0, fun u h => ?_, fun q h => (by cases h)⟩
          cases h
          refine ⟨k3, ?_⟩
          unfold f_X3_readAtom
          simp (disch := omega) only [qn0, qn1, qn2, qn3, qn4, qn5, qn6, qn7, qn8, qn9, qn10, qn11, qn12, qn13, qn14, qn15, qn16, qn17, qn18, qn24, qn30, qn31, qn32, qn33, qn36, qn38, qn40, qn41, qn42, qn43, qn45, qn47, qn48, qn49, qn50, qn51, qn52, qn53, qn57, qn58, qn59, qn60, qn61, qn62, qn63, qn91, qn93, qn97, qn99, qn100, qn103, qn104, qn112, qn113, qn115, qn116, qn118, qn119, qn121, qn124, qn173, qn177, qn240, qn255, qn295, qn352, qn353, qn533, qn999, qn1000, qn1023, qn6561, qn10000, qn20787, qn1000000, qn252645135, qn858993459, qn1000000000, qn1431655765, q_s1, q_s2, q_s3, q_s4, q_s5, iI_add, iI_sub, iI_mul, iI_neg, q_lt, q_le, q_eq, qz0, qz1, qz2, qz3, if_pos, if_neg, reduceIte, e1, c2, e2, k4]
        | .inr q =>
          obtain ⟨k3, k4⟩ := k2 q hR
          simp only at k4
          obtain ⟨q1, q2, q3, -⟩ := hg.2 q hR
          have e4 := c_take w (k0.K hr K) q2 (c := 93) (by decide)
          have hlen2 : (pre ++ q.2.1).length ≤ 240 := by
            rw [List.length_append]
            omega
          by_cases c5 : tp_l b n q.1 = 93
          · have ee : lr_cs b n 93 (.inr q) = .inr (tp_s b n q.1 + 1, q.2) := if_pos c5
            rw [if_pos c5] at e4
            rw [ee]
            refine ⟨N1, 0, k0, fun u h => (by cases h), fun q' h => ?_⟩
            cases h
            refine ⟨k3, ?_⟩
            unfold f_X3_readAtom
            simp (disch := omega) only [qn0, qn1, qn2, qn3, qn4, qn5, qn6, qn7, qn8, qn9, qn10, qn11, qn12, qn13, qn14, qn15, qn16, qn17, qn18, qn24, qn30, qn31, qn32, qn33, qn36, qn38, qn40, qn41, qn42, qn43, qn45, qn47, qn48, qn49, qn50, qn51, qn52, qn53, qn57, qn58, qn59, qn60, qn61, qn62, qn63, qn91, qn93, qn97, qn99, qn100, qn103, qn104, qn112, qn113, qn115, qn116, qn118, qn119, qn121, qn124, qn173, qn177, qn240, qn255, qn295, qn352, qn353, qn533, qn999, qn1000, qn1023, qn6561, qn10000, qn20787, qn1000000, qn252645135, qn858993459, qn1000000000, qn1431655765, q_s1, q_s2, q_s3, q_s4, q_s5, iI_add, iI_sub, iI_mul, iI_neg, q_lt, q_le, q_eq, qz0, qz1, qz2, qz3, if_pos, if_neg, reduceIte, e1, c2, e2, k4, e4]
          · have ee : lr_cs b n 93 (.inr q) = .inl (tp_s b n q.1) := if_neg c5
            rw [if_neg c5] at e4
            rw [ee]
            refine ⟨N1, tp_s b n q.1, k0, fun u h => ?_, fun q h => (by cases h)⟩
            cases h
            refine ⟨k3.cnt hlen2, ?_⟩
            unfold f_X3_readAtom
            simp (disch := omega) only [qn0, qn1, qn2, qn3, qn4, qn5, qn6, qn7, qn8, qn9, qn10, qn11, qn12, qn13, qn14, qn15, qn16, qn17, qn18, qn24, qn30, qn31, qn32, qn33, qn36, qn38, qn40, qn41, qn42, qn43, qn45, qn47, qn48, qn49, qn50, qn51, qn52, qn53, qn57, qn58, qn59, qn60, qn61, qn62, qn63, qn91, qn93, qn97, qn99, qn100, qn103, qn104, qn112, qn113, qn115, qn116, qn118, qn119, qn121, qn124, qn173, qn177, qn240, qn255, qn295, qn352, qn353, qn533, qn999, qn1000, qn1023, qn6561, qn10000, qn20787, qn1000000, qn252645135, qn858993459, qn1000000000, qn1431655765, q_s1, q_s2, q_s3, q_s4, q_s5, iI_add, iI_sub, iI_mul, iI_neg, q_lt, q_le, q_eq, qz0, qz1, qz2, qz3, if_pos, if_neg, reduceIte, e1, c2, e2, k4, e4]
    · have e4 := c_num4 w KN ha
      have en : lr_atom b n I a = (match tp_n b n 4 a with | .inl e => .inl e | .inr q => .inr (q.1, [q.2], fun _ => q.2)) := by
        unfold lr_atom
        rw [if_neg c, if_neg c2]
        cases tp_n b n 4 a <;> rfl
      rcases hl with c5 | c5
      · have e7 : tp_n b n 4 a = .inl (tp_s b n a) := by
          unfold tp_n
          rw [if_neg (by omega)]
        rw [en, e7]
        refine ⟨N, tp_s b n a, hX, fun u h => ?_, fun q h => (by cases h)⟩
        cases h
        refine ⟨hK.cnt (by omega), ?_⟩
        rw [c5.1] at e1
        unfold f_X3_readAtom
        simp (disch := omega) only [qn0, qn1, qn2, qn3, qn4, qn5, qn6, qn7, qn8, qn9, qn10, qn11, qn12, qn13, qn14, qn15, qn16, qn17, qn18, qn24, qn30, qn31, qn32, qn33, qn36, qn38, qn40, qn41, qn42, qn43, qn45, qn47, qn48, qn49, qn50, qn51, qn52, qn53, qn57, qn58, qn59, qn60, qn61, qn62, qn63, qn91, qn93, qn97, qn99, qn100, qn103, qn104, qn112, qn113, qn115, qn116, qn118, qn119, qn121, qn124, qn173, qn177, qn240, qn255, qn295, qn352, qn353, qn533, qn999, qn1000, qn1023, qn6561, qn10000, qn20787, qn1000000, qn252645135, qn858993459, qn1000000000, qn1431655765, q_s1, q_s2, q_s3, q_s4, q_s5, iI_add, iI_sub, iI_mul, iI_neg, q_lt, q_le, q_eq, qz0, qz1, qz2, qz3, if_pos, if_neg, reduceIte, e1, ef]
      · have e3 := q_sp2 (tp_l b n a).toNat (by omega)
        rw [show (((tp_l b n a).toNat : Nat) : Int) = tp_l b n a by omega, c0] at e3
        match hR : tp_n b n 4 a with
        | .inl u =>
          have hu := hn.1 u hR
          rw [hR] at e4
          simp only at e4
          rw [en, hR]
          refine ⟨N, u, hX, fun u h => ?_, fun q h => (by cases h)⟩
          cases h
          refine ⟨hK.cnt (by omega), ?_⟩
          unfold f_X3_readAtom
          simp (disch := omega) only [qn0, qn1, qn2, qn3, qn4, qn5, qn6, qn7, qn8, qn9, qn10, qn11, qn12, qn13, qn14, qn15, qn16, qn17, qn18, qn24, qn30, qn31, qn32, qn33, qn36, qn38, qn40, qn41, qn42, qn43, qn45, qn47, qn48, qn49, qn50, qn51, qn52, qn53, qn57, qn58, qn59, qn60, qn61, qn62, qn63, qn91, qn93, qn97, qn99, qn100, qn103, qn104, qn112, qn113, qn115, qn116, qn118, qn119, qn121, qn124, qn173, qn177, qn240, qn255, qn295, qn352, qn353, qn533, qn999, qn1000, qn1023, qn6561, qn10000, qn20787, qn1000000, qn252645135, qn858993459, qn1000000000, qn1431655765, q_s1, q_s2, q_s3, q_s4, q_s5, iI_add, iI_sub, iI_mul, iI_neg, q_lt, q_le, q_eq, qz0, qz1, qz2, qz3, if_pos, if_neg, reduceIte, e1, e3, e4]
        | .inr q =>
          obtain ⟨q1, q2, q3, q4⟩ := hn.2 q hR
          rw [hR] at e4
          simp only at e4
          obtain ⟨N2, p1, p2, p3⟩ := c_lput (a := q.1) (t := -1) hr hK (by omega) q.2
          rw [en, hR]
          refine ⟨N2, 0, hX.tr p3, fun u h => (by cases h), fun x h => ?_⟩
          cases h
          refine ⟨p2, ?_⟩
          unfold f_X3_readAtom
          simp (disch := omega) only [qn0, qn1, qn2, qn3, qn4, qn5, qn6, qn7, qn8, qn9, qn10, qn11, qn12, qn13, qn14, qn15, qn16, qn17, qn18, qn24, qn30, qn31, qn32, qn33, qn36, qn38, qn40, qn41, qn42, qn43, qn45, qn47, qn48, qn49, qn50, qn51, qn52, qn53, qn57, qn58, qn59, qn60, qn61, qn62, qn63, qn91, qn93, qn97, qn99, qn100, qn103, qn104, qn112, qn113, qn115, qn116, qn118, qn119, qn121, qn124, qn173, qn177, qn240, qn255, qn295, qn352, qn353, qn533, qn999, qn1000, qn1023, qn6561, qn10000, qn20787, qn1000000, qn252645135, qn858993459, qn1000000000, qn1431655765, q_s1, q_s2, q_s3, q_s4, q_s5, iI_add, iI_sub, iI_mul, iI_neg, q_lt, q_le, q_eq, qz0, qz1, qz2, qz3, if_pos, if_neg, reduceIte, e1, e3, e4, eW, p1]
end Law6
