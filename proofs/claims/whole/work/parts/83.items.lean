/-! ITEMS of a TOWN read -/
def it_s0 (z : Int) : Int := if z = 104 then 0 else if z = 107 then 1 else if z = 99 then 2 else -1
def it_s1 (z : Int) : Int := if z = 103 then 0 else if z = 99 then 1 else if z = 119 then 2 else if z = 116 then 3 else if z = 109 then 4 else -1
def it_lo0 (k : Nat) : Int := if k < 2 then 1 else 0
def it_hi0 (k : Nat) : Int := if k = 1 then 30 else 9
def it_lo1 (_ : Nat) : Int := 0
def it_hi1 (k : Nat) : Int := if k = 4 then 8 else 9
def it_u0 (k : Nat) : Int := if k = 0 then 6 else if k = 1 then 4 else 3
def it_u1 (k : Nat) : Int := if k = 1 then 5 else if k = 2 then 1 else if k = 4 then 8 else 0
/-- letters one by one, each once; what is told; where the clause ends -/
def it_go (b : Nat → Int) (n : Nat) (sp : Int → Int) (lo hi : Nat → Int) : Nat → Nat → Nat → (Nat → Int) → Nat ⊕ (Nat × (Nat → Int))
  | 0, a, _, _ => .inl (tp_s b n a)
  | d + 1, a, z, g =>
    if sp (tp_l b n a) = -1 ∨ z.testBit (sp (tp_l b n a)).toNat = true then
      (if tp_l b n a = 59 ∨ tp_l b n a = -1 then .inr (tp_s b n a, g) else .inl (tp_s b n a))
    else match tp_n b n 2 (tp_s b n a + 1) with
      | .inl e => .inl e
      | .inr q => if q.2 < lo (sp (tp_l b n a)).toNat ∨ hi (sp (tp_l b n a)).toNat < q.2 then .inl (q.1 - 1) else it_go b n sp lo hi d q.1 (z ||| 2 ^ (sp (tp_l b n a)).toNat) (ma_su g (sp (tp_l b n a)).toNat q.2)
/-- a row of memory with values from a place on -/
def it_M (M : gs_M) (r o l : Nat) (g : Nat → Int) : gs_M := gs_row M r (fun j => if o ≤ j ∧ j < o + l then iI (g (j - o)) else M r j)
theorem it_M_r {M : gs_M} {r o l : Nat} {g : Nat → Int} {x : Nat} (h : x ≠ r) : it_M M r o l g x = M x := ma_rowr_ne _ _ _ _ h
theorem it_M_i {M : gs_M} {r o l : Nat} {g : Nat → Int} {k : Nat} (h : k < l) : it_M M r o l g r (o + k) = iI (g k) := by
  unfold it_M
  rw [ma_rowr_eq, if_pos (by omega)]
  congr 2
  omega
theorem it_M_o {M : gs_M} {r o l : Nat} {g : Nat → Int} {k : Nat} (h : k < o ∨ o + l ≤ k) : it_M M r o l g r k = M r k := by
  unfold it_M
  rw [ma_rowr_eq, if_neg (by omega)]
theorem it_M_u {M : gs_M} {r o l : Nat} {g : Nat → Int} {k : Nat} (h : k < l) (v : Int) : gs_up (it_M M r o l g) r (o + k) (iI v) = it_M M r o l (ma_su g k v) := by
  funext x y
  rw [gs_up_at]
  by_cases c : x = r
  · subst c
    by_cases d : y = o + k
    · rw [if_pos ⟨rfl, d⟩, d, it_M_i h, ma_su_eq]
    · rw [if_neg (fun z => d z.2)]
      by_cases e : o ≤ y ∧ y < o + l
      · obtain ⟨m, rfl⟩ : ∃ m, y = o + m := ⟨y - o, by omega⟩
        rw [it_M_i (by omega), it_M_i (by omega), ma_su_ne _ _ (by omega)]
      · rw [it_M_o (by omega), it_M_o (by omega)]
  · rw [if_neg (fun z => c z.1), it_M_r c, it_M_r c]
theorem it_K {b : Nat → Int} {n : Nat} {M : gs_M} (K : tp_K b n M) {r o l : Nat} {g : Nat → Int} (h : r ≠ 1) (h2 : r ≠ 2) : tp_K b n (it_M M r o l g) := K.row _ h h2
theorem it_mK {b : Nat → Int} {n q w : Nat} {M : gs_M} (K : md_K q w b n M) {r o l : Nat} {g : Nat → Int} (h : r ≠ 147 ∧ r ≠ 148 ∧ r ≠ 149) : md_K q w b n (it_M M r o l g) := by
  obtain ⟨h0, h1, h2, h3, h4⟩ := K
  refine ⟨h0, ?_, ?_, ?_, fun i hi => ?_⟩
  · rw [it_M_r (by omega)]; exact h1
  · rw [it_M_r (by omega)]; exact h2
  · rw [it_M_r (by omega)]; exact h3
  · rw [it_M_r (by omega)]; exact h4 i hi
/-! letters -/
theorem q_sp0 : ∀ z : Nat, z < 256 → gs_spot 0 ((Int32.toUInt32 (iI z) % 65536).toInt32) = iI (it_s0 z) := by decide +kernel
theorem q_sp1 : ∀ z : Nat, z < 256 → gs_spot 1 ((Int32.toUInt32 (iI z) % 65536).toInt32) = iI (it_s1 z) := by decide +kernel
theorem q_mp0 : ∀ z : Nat, z < 257 → f_X12_spotOf_2 (iI ((z : Int) - 1)) = some (iI (it_s0 ((z : Int) - 1))) := by decide +kernel
theorem q_mp1 : ∀ z : Nat, z < 257 → f_X12_spotOf (iI ((z : Int) - 1)) = some (iI (it_s1 ((z : Int) - 1))) := by decide +kernel
section Items
variable {b : Nat → Int} {n a r o : Nat} {t : Int} {M : gs_M}
theorem m_sp0 {z : Int} (h : -1 ≤ z ∧ z ≤ 255) : f_X12_spotOf_2 (iI z) = some (iI (it_s0 z)) := by
  have := q_mp0 (z + 1).toNat (by omega)
  rw [show (((z + 1).toNat : Nat) : Int) - 1 = z by omega] at this
  exact this
theorem m_sp1 {z : Int} (h : -1 ≤ z ∧ z ≤ 255) : f_X12_spotOf (iI z) = some (iI (it_s1 z)) := by
  have := q_mp1 (z + 1).toNat (by omega)
  rw [show (((z + 1).toNat : Nat) : Int) - 1 = z by omega] at this
  exact this
theorem c_lt0 (w : tp_w b n) (K : tp_K b n M) (ha : a ≤ n) : f_X9_letterAt_2 (tp_m M a t) = some (iI (it_s0 (tp_l b n a)), tp_m M (tp_s b n a) t) := by
  have e1 := c_look (t := t) w K ha
  have hl := tp_l_b (a := a) w
  unfold f_X9_letterAt_2
  rcases hl with c | c
  · rw [c.1] at e1 ⊢
    simp (disch := omega) only [qn0, qn1, qn2, qn3, qn4, qn5, qn6, qn7, qn8, qn9, qn10, qn11, qn12, qn13, qn14, qn15, qn16, qn17, qn18, qn24, qn30, qn31, qn32, qn33, qn36, qn38, qn40, qn41, qn42, qn43, qn45, qn47, qn48, qn49, qn50, qn51, qn52, qn53, qn57, qn58, qn59, qn60, qn61, qn62, qn63, qn91, qn93, qn97, qn99, qn100, qn103, qn104, qn112, qn113, qn115, qn116, qn118, qn119, qn121, qn124, qn173, qn177, qn240, qn255, qn295, qn352, qn353, qn533, qn999, qn1000, qn1023, qn6561, qn10000, qn20787, qn1000000, qn252645135, qn858993459, qn1000000000, qn1431655765, q_s1, q_s2, q_s3, q_s4, q_s5, iI_add, iI_sub, iI_mul, iI_neg, q_lt, q_le, q_eq, qz0, qz1, qz2, qz3, if_pos, if_neg, reduceIte, e1]
    rfl
  · have e2 := q_sp0 (tp_l b n a).toNat (by omega)
    rw [show (((tp_l b n a).toNat : Nat) : Int) = tp_l b n a by omega] at e2
    simp (disch := omega) only [qn0, qn1, qn2, qn3, qn4, qn5, qn6, qn7, qn8, qn9, qn10, qn11, qn12, qn13, qn14, qn15, qn16, qn17, qn18, qn24, qn30, qn31, qn32, qn33, qn36, qn38, qn40, qn41, qn42, qn43, qn45, qn47, qn48, qn49, qn50, qn51, qn52, qn53, qn57, qn58, qn59, qn60, qn61, qn62, qn63, qn91, qn93, qn97, qn99, qn100, qn103, qn104, qn112, qn113, qn115, qn116, qn118, qn119, qn121, qn124, qn173, qn177, qn240, qn255, qn295, qn352, qn353, qn533, qn999, qn1000, qn1023, qn6561, qn10000, qn20787, qn1000000, qn252645135, qn858993459, qn1000000000, qn1431655765, q_s1, q_s2, q_s3, q_s4, q_s5, iI_add, iI_sub, iI_mul, iI_neg, q_lt, q_le, q_eq, qz0, qz1, qz2, qz3, if_pos, if_neg, reduceIte, e1, e2]
theorem c_lt1 (w : tp_w b n) (K : tp_K b n M) (ha : a ≤ n) : f_X9_letterAt (tp_m M a t) = some (iI (it_s1 (tp_l b n a)), tp_m M (tp_s b n a) t) := by
  have e1 := c_look (t := t) w K ha
  have hl := tp_l_b (a := a) w
  unfold f_X9_letterAt
  rcases hl with c | c
  · rw [c.1] at e1 ⊢
    simp (disch := omega) only [qn0, qn1, qn2, qn3, qn4, qn5, qn6, qn7, qn8, qn9, qn10, qn11, qn12, qn13, qn14, qn15, qn16, qn17, qn18, qn24, qn30, qn31, qn32, qn33, qn36, qn38, qn40, qn41, qn42, qn43, qn45, qn47, qn48, qn49, qn50, qn51, qn52, qn53, qn57, qn58, qn59, qn60, qn61, qn62, qn63, qn91, qn93, qn97, qn99, qn100, qn103, qn104, qn112, qn113, qn115, qn116, qn118, qn119, qn121, qn124, qn173, qn177, qn240, qn255, qn295, qn352, qn353, qn533, qn999, qn1000, qn1023, qn6561, qn10000, qn20787, qn1000000, qn252645135, qn858993459, qn1000000000, qn1431655765, q_s1, q_s2, q_s3, q_s4, q_s5, iI_add, iI_sub, iI_mul, iI_neg, q_lt, q_le, q_eq, qz0, qz1, qz2, qz3, if_pos, if_neg, reduceIte, e1]
    rfl
  · have e2 := q_sp1 (tp_l b n a).toNat (by omega)
    rw [show (((tp_l b n a).toNat : Nat) : Int) = tp_l b n a by omega] at e2
    simp (disch := omega) only [qn0, qn1, qn2, qn3, qn4, qn5, qn6, qn7, qn8, qn9, qn10, qn11, qn12, qn13, qn14, qn15, qn16, qn17, qn18, qn24, qn30, qn31, qn32, qn33, qn36, qn38, qn40, qn41, qn42, qn43, qn45, qn47, qn48, qn49, qn50, qn51, qn52, qn53, qn57, qn58, qn59, qn60, qn61, qn62, qn63, qn91, qn93, qn97, qn99, qn100, qn103, qn104, qn112, qn113, qn115, qn116, qn118, qn119, qn121, qn124, qn173, qn177, qn240, qn255, qn295, qn352, qn353, qn533, qn999, qn1000, qn1023, qn6561, qn10000, qn20787, qn1000000, qn252645135, qn858993459, qn1000000000, qn1431655765, q_s1, q_s2, q_s3, q_s4, q_s5, iI_add, iI_sub, iI_mul, iI_neg, q_lt, q_le, q_eq, qz0, qz1, qz2, qz3, if_pos, if_neg, reduceIte, e1, e2]
theorem c_ends (w : tp_w b n) (K : tp_K b n M) (ha : a ≤ n) : f_X9_endsClause (tp_m M a (-1)) = some (if tp_l b n a = 59 ∨ tp_l b n a = -1 then (iI 1, tp_m M (tp_s b n a) (-1)) else (iI 0, tp_m M (tp_s b n a) (tp_s b n a : Nat))) := by
  have e1 := c_look (t := -1) w K ha
  have hl := tp_l_b (a := a) w
  have e2 := c_fail (M := M) (a := tp_s b n a)
  unfold f_X9_endsClause
  by_cases c : tp_l b n a = 59 ∨ tp_l b n a = -1
  · rw [if_pos c]
    rcases c with c | c <;> simp (disch := omega) only [qn0, qn1, qn2, qn3, qn4, qn5, qn6, qn7, qn8, qn9, qn10, qn11, qn12, qn13, qn14, qn15, qn16, qn17, qn18, qn24, qn30, qn31, qn32, qn33, qn36, qn38, qn40, qn41, qn42, qn43, qn45, qn47, qn48, qn49, qn50, qn51, qn52, qn53, qn57, qn58, qn59, qn60, qn61, qn62, qn63, qn91, qn93, qn97, qn99, qn100, qn103, qn104, qn112, qn113, qn115, qn116, qn118, qn119, qn121, qn124, qn173, qn177, qn240, qn255, qn295, qn352, qn353, qn533, qn999, qn1000, qn1023, qn6561, qn10000, qn20787, qn1000000, qn252645135, qn858993459, qn1000000000, qn1431655765, q_s1, q_s2, q_s3, q_s4, q_s5, iI_add, iI_sub, iI_mul, iI_neg, q_lt, q_le, q_eq, qz0, qz1, qz2, qz3, if_pos, if_neg, reduceIte, e1]
  · rw [if_neg c]
    simp (disch := omega) only [qn0, qn1, qn2, qn3, qn4, qn5, qn6, qn7, qn8, qn9, qn10, qn11, qn12, qn13, qn14, qn15, qn16, qn17, qn18, qn24, qn30, qn31, qn32, qn33, qn36, qn38, qn40, qn41, qn42, qn43, qn45, qn47, qn48, qn49, qn50, qn51, qn52, qn53, qn57, qn58, qn59, qn60, qn61, qn62, qn63, qn91, qn93, qn97, qn99, qn100, qn103, qn104, qn112, qn113, qn115, qn116, qn118, qn119, qn121, qn124, qn173, qn177, qn240, qn255, qn295, qn352, qn353, qn533, qn999, qn1000, qn1023, qn6561, qn10000, qn20787, qn1000000, qn252645135, qn858993459, qn1000000000, qn1431655765, q_s1, q_s2, q_s3, q_s4, q_s5, iI_add, iI_sub, iI_mul, iI_neg, q_lt, q_le, q_eq, qz0, qz1, qz2, qz3, if_pos, if_neg, reduceIte, e1, e2]
theorem tp_n_b (w : tp_w b n) (ha : a ≤ n) {q : Nat × Int} (h : tp_n b n 2 a = .inr q) : a < q.1 ∧ q.1 ≤ n ∧ 0 ≤ q.2 ∧ q.2 ≤ 99 := by
  have h1 := tp_s_b (b := b) ha
  have hl := tp_l_b (a := a) w
  have h2 := tp_d_b (b := b) 2 (tp_s b n a) 0 h1.2
  have h3 := tp_d_v (b := b) (n := n) 2 (tp_s b n a) 0 0 (by omega) (by omega)
  unfold tp_n at h
  by_cases c : 48 ≤ tp_l b n a ∧ tp_l b n a ≤ 57
  · rw [if_pos c] at h
    split at h
    · cases h
    · have e := Sum.inr.inj h
      subst e
      have h4 : tp_s b n a < (tp_d b n 2 (tp_s b n a) 0).1 := by
        simp only [tp_d]
        rw [if_pos (show tp_s b n a < n ∧ 48 ≤ b (tp_s b n a) ∧ b (tp_s b n a) ≤ 57 by omega)]
        split <;> simp only <;> omega
      omega
  · rw [if_neg c] at h
    cases h
theorem c_item (w : tp_w b n) (K : tp_K b n M) (ha : a < n) {x y : Int} (hx : 0 ≤ x ∧ x ≤ 99) (hy : 0 ≤ y ∧ y ≤ 99) : f_X9_readItem (tp_m M a (-1)) (iI x) (iI y) = some (match tp_n b n 2 (a + 1) with | .inl e => (iI (-1), tp_m M e e) | .inr q => if q.2 < x ∨ y < q.2 then (iI (-1), tp_m M q.1 ((q.1 - 1 : Nat) : Int)) else (iI q.2, tp_m M q.1 (-1))) := by
  have w1 := w.1
  have e1 := c_step1 (t := -1) w K ha
  have e2 : f_X7_number (tp_m M (a + 1) (-1)) (iI 2) = _ := c_num w K (a := a + 1) (by omega) (q := 2) (by decide)
  have hb := fun q => tp_n_b w (a := a + 1) (by omega) (q := q)
  revert e2 hb
  generalize tp_n b n 2 (a + 1) = R
  intro e2 hb
  unfold f_X9_readItem
  match R, e2, hb with
  | .inl e, e2, hb =>
    simp only at e2
    simp (disch := omega) only [qn0, qn1, qn2, qn3, qn4, qn5, qn6, qn7, qn8, qn9, qn10, qn11, qn12, qn13, qn14, qn15, qn16, qn17, qn18, qn24, qn30, qn31, qn32, qn33, qn36, qn38, qn40, qn41, qn42, qn43, qn45, qn47, qn48, qn49, qn50, qn51, qn52, qn53, qn57, qn58, qn59, qn60, qn61, qn62, qn63, qn91, qn93, qn97, qn99, qn100, qn103, qn104, qn112, qn113, qn115, qn116, qn118, qn119, qn121, qn124, qn173, qn177, qn240, qn255, qn295, qn352, qn353, qn533, qn999, qn1000, qn1023, qn6561, qn10000, qn20787, qn1000000, qn252645135, qn858993459, qn1000000000, qn1431655765, q_s1, q_s2, q_s3, q_s4, q_s5, iI_add, iI_sub, iI_mul, iI_neg, q_lt, q_le, q_eq, qz0, qz1, qz2, qz3, if_pos, if_neg, reduceIte, e1, e2]
  | .inr (p, v), e2, hb =>
    have hb' := hb (p, v) rfl
    simp only at e2 hb' ⊢
    have e4 : gs_up (tp_m M p (-1)) 1 3 (iI ((p : Int) - 1)) = tp_m M p ((p - 1 : Nat) : Int) := by
      rw [show (p : Int) - 1 = ((p - 1 : Nat) : Int) by omega]
      exact tp_u3 _
    have e3 : f_X7_failAtDigit (tp_m M p (-1)) = some (tp_m M p ((p - 1 : Nat) : Int)) := by
      unfold f_X7_failAtDigit
      simp (disch := omega) only [qn0, qn1, qn2, qn3, qn4, qn5, qn6, qn7, qn8, qn9, qn10, qn11, qn12, qn13, qn14, qn15, qn16, qn17, qn18, qn24, qn30, qn31, qn32, qn33, qn36, qn38, qn40, qn41, qn42, qn43, qn45, qn47, qn48, qn49, qn50, qn51, qn52, qn53, qn57, qn58, qn59, qn60, qn61, qn62, qn63, qn91, qn93, qn97, qn99, qn100, qn103, qn104, qn112, qn113, qn115, qn116, qn118, qn119, qn121, qn124, qn173, qn177, qn240, qn255, qn295, qn352, qn353, qn533, qn999, qn1000, qn1023, qn6561, qn10000, qn20787, qn1000000, qn252645135, qn858993459, qn1000000000, qn1431655765, q_s1, q_s2, q_s3, q_s4, q_s5, iI_add, iI_sub, iI_mul, iI_neg, q_lt, q_le, q_eq, qz0, qz1, qz2, qz3, if_pos, if_neg, reduceIte, tp_m3, tp_m2, e4]
    by_cases c : v < x ∨ y < v
    · rw [if_pos c]
      rcases (by omega : v < x ∨ (x ≤ v ∧ y < v)) with d | d <;> simp (disch := omega) only [qn0, qn1, qn2, qn3, qn4, qn5, qn6, qn7, qn8, qn9, qn10, qn11, qn12, qn13, qn14, qn15, qn16, qn17, qn18, qn24, qn30, qn31, qn32, qn33, qn36, qn38, qn40, qn41, qn42, qn43, qn45, qn47, qn48, qn49, qn50, qn51, qn52, qn53, qn57, qn58, qn59, qn60, qn61, qn62, qn63, qn91, qn93, qn97, qn99, qn100, qn103, qn104, qn112, qn113, qn115, qn116, qn118, qn119, qn121, qn124, qn173, qn177, qn240, qn255, qn295, qn352, qn353, qn533, qn999, qn1000, qn1023, qn6561, qn10000, qn20787, qn1000000, qn252645135, qn858993459, qn1000000000, qn1431655765, q_s1, q_s2, q_s3, q_s4, q_s5, iI_add, iI_sub, iI_mul, iI_neg, q_lt, q_le, q_eq, qz0, qz1, qz2, qz3, if_pos, if_neg, reduceIte, e1, e2, e3]
    · rw [if_neg c]
      simp (disch := omega) only [qn0, qn1, qn2, qn3, qn4, qn5, qn6, qn7, qn8, qn9, qn10, qn11, qn12, qn13, qn14, qn15, qn16, qn17, qn18, qn24, qn30, qn31, qn32, qn33, qn36, qn38, qn40, qn41, qn42, qn43, qn45, qn47, qn48, qn49, qn50, qn51, qn52, qn53, qn57, qn58, qn59, qn60, qn61, qn62, qn63, qn91, qn93, qn97, qn99, qn100, qn103, qn104, qn112, qn113, qn115, qn116, qn118, qn119, qn121, qn124, qn173, qn177, qn240, qn255, qn295, qn352, qn353, qn533, qn999, qn1000, qn1023, qn6561, qn10000, qn20787, qn1000000, qn252645135, qn858993459, qn1000000000, qn1431655765, q_s1, q_s2, q_s3, q_s4, q_s5, iI_add, iI_sub, iI_mul, iI_neg, q_lt, q_le, q_eq, qz0, qz1, qz2, qz3, if_pos, if_neg, reduceIte, e1, e2]
theorem ma_ct_le (z n : Nat) : ma_ct z n ≤ n := by
  induction n with
  | zero => simp [ma_ct]
  | succ n ih =>
    simp only [ma_ct]
    split <;> omega
theorem ma_ct_lt {z n j : Nat} (hj : j < n) (h : z.testBit j = false) : ma_ct z n < n := by
  induction n with
  | zero => omega
  | succ n ih =>
    simp only [ma_ct]
    rcases (by omega : j = n ∨ j < n) with c | c
    · subst c
      have := ma_ct_le z j
      rw [if_neg (by rw [h]; decide)]
      omega
    · have := ih c
      split <;> omega
theorem q_r0lo : ∀ k : Nat, k < 3 → gs_rd (fun _ => gs_sv 0) 0 (gs_sn 0) (iI k) = some (iI (it_lo0 k)) := by decide +kernel
theorem q_r0hi : ∀ k : Nat, k < 3 → gs_rd (fun _ => gs_sv 1) 0 (gs_sn 1) (iI k) = some (iI (it_hi0 k)) := by decide +kernel
theorem q_r1lo : ∀ k : Nat, k < 5 → gs_rd (fun _ => gs_sv 3) 0 (gs_sn 3) (iI k) = some (iI (it_lo1 k)) := by decide +kernel
theorem q_r1hi : ∀ k : Nat, k < 5 → gs_rd (fun _ => gs_sv 4) 0 (gs_sn 4) (iI k) = some (iI (it_hi1 k)) := by decide +kernel
theorem c_it0 (w : tp_w b n) (hk : ∀ z, -1 ≤ it_s0 z ∧ it_s0 z < 3) {o : Nat} (ho : o + 3 ≤ 3) : ∀ (d i a f z : Nat) (g : Nat → Int) (M : gs_M), tp_K b n M → i + d = 3 + 1 → a ≤ n → d < f → z < 2 ^ 3 → ma_ct z 3 = i → ∃ g' a', (match it_go b n it_s0 it_lo0 it_hi0 d a z g with | .inl e => l_X9_readItems_2_6 (iI o) f (iI z) (iI i) (tp_m (it_M M 7 o 3 g) a (-1)) = some (iI 0, tp_m (it_M M 7 o 3 g') a' e) | .inr q => l_X9_readItems_2_6 (iI o) f (iI z) (iI i) (tp_m (it_M M 7 o 3 g) a (-1)) = some (iI 1, tp_m (it_M M 7 o 3 q.2) q.1 (-1))) := by
  have w1 := w.1
  have hln : gs_ln 0 = iI 3 := rfl
  intro d
  induction d with
  | zero =>
    intro i a f z g M K hi ha hf hz hc
    have := ma_ct_le z 3
    omega
  | succ d ih =>
    intro i a f z g M K hi ha hf hz hc
    obtain ⟨f, rfl⟩ : ∃ k, f = k + 1 := ⟨f - 1, by omega⟩
    have K1 : tp_K b n (it_M M 7 o 3 g) := it_K K (by decide) (by decide)
    have h1 := tp_s_b (b := b) ha
    have hl := tp_l_b (a := a) w
    have e0 := c_ends w K1 ha
    have e0' := c_ends w K1 h1.2
    rw [tp_ll ha, tp_ss ha] at e0'
    have e1 := c_lt0 (t := -1) w K1 ha
    have hs := hk (tp_l b n a)
    simp only [it_go]
    by_cases c : it_s0 (tp_l b n a) = -1 ∨ z.testBit (it_s0 (tp_l b n a)).toNat = true
    · rw [if_pos c]
      by_cases c2 : tp_l b n a = 59 ∨ tp_l b n a = -1
      · rw [if_pos c2] at e0 e0' ⊢
        refine ⟨g, 0, ?_⟩
        simp only [l_X9_readItems_2_6]
        rw [hln]
        rcases (by omega : i = 3 ∨ (i < 3 ∧ it_s0 (tp_l b n a) = -1) ∨ (i < 3 ∧ it_s0 (tp_l b n a) ≠ -1)) with c3 | c3 | c3
        · simp (disch := omega) only [qn0, qn1, qn2, qn3, qn4, qn5, qn6, qn7, qn8, qn9, qn10, qn11, qn12, qn13, qn14, qn15, qn16, qn17, qn18, qn24, qn30, qn31, qn32, qn33, qn36, qn38, qn40, qn41, qn42, qn43, qn45, qn47, qn48, qn49, qn50, qn51, qn52, qn53, qn57, qn58, qn59, qn60, qn61, qn62, qn63, qn91, qn93, qn97, qn99, qn100, qn103, qn104, qn112, qn113, qn115, qn116, qn118, qn119, qn121, qn124, qn173, qn177, qn240, qn255, qn295, qn352, qn353, qn533, qn999, qn1000, qn1023, qn6561, qn10000, qn20787, qn1000000, qn252645135, qn858993459, qn1000000000, qn1431655765, q_s1, q_s2, q_s3, q_s4, q_s5, iI_add, iI_sub, iI_mul, iI_neg, q_lt, q_le, q_eq, qz0, qz1, qz2, qz3, if_pos, if_neg, reduceIte, e0]
        · simp (disch := omega) only [qn0, qn1, qn2, qn3, qn4, qn5, qn6, qn7, qn8, qn9, qn10, qn11, qn12, qn13, qn14, qn15, qn16, qn17, qn18, qn24, qn30, qn31, qn32, qn33, qn36, qn38, qn40, qn41, qn42, qn43, qn45, qn47, qn48, qn49, qn50, qn51, qn52, qn53, qn57, qn58, qn59, qn60, qn61, qn62, qn63, qn91, qn93, qn97, qn99, qn100, qn103, qn104, qn112, qn113, qn115, qn116, qn118, qn119, qn121, qn124, qn173, qn177, qn240, qn255, qn295, qn352, qn353, qn533, qn999, qn1000, qn1023, qn6561, qn10000, qn20787, qn1000000, qn252645135, qn858993459, qn1000000000, qn1431655765, q_s1, q_s2, q_s3, q_s4, q_s5, iI_add, iI_sub, iI_mul, iI_neg, q_lt, q_le, q_eq, qz0, qz1, qz2, qz3, if_pos, if_neg, reduceIte, e1, c3.2, e0']
        · have e2 := b_tb (z := z) (i := (it_s0 (tp_l b n a)).toNat) (by omega) (by omega)
          rw [show (((it_s0 (tp_l b n a)).toNat : Nat) : Int) = it_s0 (tp_l b n a) by omega] at e2
          rcases c with c | c
          · omega
          · rw [if_pos c] at e2
            simp (disch := omega) only [qn0, qn1, qn2, qn3, qn4, qn5, qn6, qn7, qn8, qn9, qn10, qn11, qn12, qn13, qn14, qn15, qn16, qn17, qn18, qn24, qn30, qn31, qn32, qn33, qn36, qn38, qn40, qn41, qn42, qn43, qn45, qn47, qn48, qn49, qn50, qn51, qn52, qn53, qn57, qn58, qn59, qn60, qn61, qn62, qn63, qn91, qn93, qn97, qn99, qn100, qn103, qn104, qn112, qn113, qn115, qn116, qn118, qn119, qn121, qn124, qn173, qn177, qn240, qn255, qn295, qn352, qn353, qn533, qn999, qn1000, qn1023, qn6561, qn10000, qn20787, qn1000000, qn252645135, qn858993459, qn1000000000, qn1431655765, q_s1, q_s2, q_s3, q_s4, q_s5, iI_add, iI_sub, iI_mul, iI_neg, q_lt, q_le, q_eq, qz0, qz1, qz2, qz3, if_pos, if_neg, reduceIte, e1, e2, e0']
      · rw [if_neg c2] at e0 e0' ⊢
        refine ⟨g, tp_s b n a, ?_⟩
        simp only [l_X9_readItems_2_6]
        rw [hln]
        rcases (by omega : i = 3 ∨ (i < 3 ∧ it_s0 (tp_l b n a) = -1) ∨ (i < 3 ∧ it_s0 (tp_l b n a) ≠ -1)) with c3 | c3 | c3
        · simp (disch := omega) only [qn0, qn1, qn2, qn3, qn4, qn5, qn6, qn7, qn8, qn9, qn10, qn11, qn12, qn13, qn14, qn15, qn16, qn17, qn18, qn24, qn30, qn31, qn32, qn33, qn36, qn38, qn40, qn41, qn42, qn43, qn45, qn47, qn48, qn49, qn50, qn51, qn52, qn53, qn57, qn58, qn59, qn60, qn61, qn62, qn63, qn91, qn93, qn97, qn99, qn100, qn103, qn104, qn112, qn113, qn115, qn116, qn118, qn119, qn121, qn124, qn173, qn177, qn240, qn255, qn295, qn352, qn353, qn533, qn999, qn1000, qn1023, qn6561, qn10000, qn20787, qn1000000, qn252645135, qn858993459, qn1000000000, qn1431655765, q_s1, q_s2, q_s3, q_s4, q_s5, iI_add, iI_sub, iI_mul, iI_neg, q_lt, q_le, q_eq, qz0, qz1, qz2, qz3, if_pos, if_neg, reduceIte, e0]
        · simp (disch := omega) only [qn0, qn1, qn2, qn3, qn4, qn5, qn6, qn7, qn8, qn9, qn10, qn11, qn12, qn13, qn14, qn15, qn16, qn17, qn18, qn24, qn30, qn31, qn32, qn33, qn36, qn38, qn40, qn41, qn42, qn43, qn45, qn47, qn48, qn49, qn50, qn51, qn52, qn53, qn57, qn58, qn59, qn60, qn61, qn62, qn63, qn91, qn93, qn97, qn99, qn100, qn103, qn104, qn112, qn113, qn115, qn116, qn118, qn119, qn121, qn124, qn173, qn177, qn240, qn255, qn295, qn352, qn353, qn533, qn999, qn1000, qn1023, qn6561, qn10000, qn20787, qn1000000, qn252645135, qn858993459, qn1000000000, qn1431655765, q_s1, q_s2, q_s3, q_s4, q_s5, iI_add, iI_sub, iI_mul, iI_neg, q_lt, q_le, q_eq, qz0, qz1, qz2, qz3, if_pos, if_neg, reduceIte, e1, c3.2, e0']
        · have e2 := b_tb (z := z) (i := (it_s0 (tp_l b n a)).toNat) (by omega) (by omega)
          rw [show (((it_s0 (tp_l b n a)).toNat : Nat) : Int) = it_s0 (tp_l b n a) by omega] at e2
          rcases c with c | c
          · omega
          · rw [if_pos c] at e2
            simp (disch := omega) only [qn0, qn1, qn2, qn3, qn4, qn5, qn6, qn7, qn8, qn9, qn10, qn11, qn12, qn13, qn14, qn15, qn16, qn17, qn18, qn24, qn30, qn31, qn32, qn33, qn36, qn38, qn40, qn41, qn42, qn43, qn45, qn47, qn48, qn49, qn50, qn51, qn52, qn53, qn57, qn58, qn59, qn60, qn61, qn62, qn63, qn91, qn93, qn97, qn99, qn100, qn103, qn104, qn112, qn113, qn115, qn116, qn118, qn119, qn121, qn124, qn173, qn177, qn240, qn255, qn295, qn352, qn353, qn533, qn999, qn1000, qn1023, qn6561, qn10000, qn20787, qn1000000, qn252645135, qn858993459, qn1000000000, qn1431655765, q_s1, q_s2, q_s3, q_s4, q_s5, iI_add, iI_sub, iI_mul, iI_neg, q_lt, q_le, q_eq, qz0, qz1, qz2, qz3, if_pos, if_neg, reduceIte, e1, e2, e0']
    · rw [if_neg c]
      obtain ⟨k, hk'⟩ : ∃ k : Nat, it_s0 (tp_l b n a) = k := ⟨(it_s0 (tp_l b n a)).toNat, by omega⟩
      rw [hk', Int.toNat_natCast] at c ⊢
      rw [hk'] at e1 hs
      have hb : z.testBit k = false := by
        cases hh : z.testBit k
        · rfl
        · exact absurd (Or.inr hh) c
      have hi5 : i < 3 := by
        have := ma_ct_lt (z := z) (n := 3) (j := k) (by omega) hb
        omega
      have hsn : tp_s b n a < n := by
        rcases hl with c5 | c5
        · rw [c5.1] at hk'
          have : it_s0 (-1) = -1 := rfl
          omega
        · exact c5.2.2.1
      have e2 := b_tb (z := z) (i := k) (by omega) (by omega)
      rw [if_neg (by rw [hb]; decide)] at e2
      have e3 : gs_rd (fun _ => gs_sv 0) 0 (gs_sn 0) (iI k) = some (iI (it_lo0 k)) := q_r0lo k (by omega)
      have e4 : gs_rd (fun _ => gs_sv 1) 0 (gs_sn 1) (iI k) = some (iI (it_hi0 k)) := q_r0hi k (by omega)
      have hlo : 0 ≤ it_lo0 k ∧ it_lo0 k ≤ 99 := by unfold it_lo0; (try split) <;> omega
      have hhi : 0 ≤ it_hi0 k ∧ it_hi0 k ≤ 99 := by unfold it_hi0; (try split) <;> omega
      have e5 := c_item w K1 hsn (x := it_lo0 k) (y := it_hi0 k) hlo hhi
      have hbn := fun q => tp_n_b w (a := tp_s b n a + 1) (by omega) (q := q)
      revert e5 hbn
      generalize tp_n b n 2 (tp_s b n a + 1) = R
      intro e5 hbn
      match R, e5, hbn with
      | .inl e, e5, hbn =>
        simp only at e5 ⊢
        refine ⟨g, e, ?_⟩
        simp only [l_X9_readItems_2_6]
        rw [hln]
        simp (disch := omega) only [qn0, qn1, qn2, qn3, qn4, qn5, qn6, qn7, qn8, qn9, qn10, qn11, qn12, qn13, qn14, qn15, qn16, qn17, qn18, qn24, qn30, qn31, qn32, qn33, qn36, qn38, qn40, qn41, qn42, qn43, qn45, qn47, qn48, qn49, qn50, qn51, qn52, qn53, qn57, qn58, qn59, qn60, qn61, qn62, qn63, qn91, qn93, qn97, qn99, qn100, qn103, qn104, qn112, qn113, qn115, qn116, qn118, qn119, qn121, qn124, qn173, qn177, qn240, qn255, qn295, qn352, qn353, qn533, qn999, qn1000, qn1023, qn6561, qn10000, qn20787, qn1000000, qn252645135, qn858993459, qn1000000000, qn1431655765, q_s1, q_s2, q_s3, q_s4, q_s5, iI_add, iI_sub, iI_mul, iI_neg, q_lt, q_le, q_eq, qz0, qz1, qz2, qz3, if_pos, if_neg, reduceIte, e1, e2, e3, e4, e5]
      | .inr (p, v), e5, hbn =>
        have hb' := hbn (p, v) rfl
        simp only at e5 hb' ⊢
        by_cases c6 : v < it_lo0 k ∨ it_hi0 k < v
        · rw [if_pos c6] at e5 ⊢
          refine ⟨g, p, ?_⟩
          simp only [l_X9_readItems_2_6]
          rw [hln]
          simp (disch := omega) only [qn0, qn1, qn2, qn3, qn4, qn5, qn6, qn7, qn8, qn9, qn10, qn11, qn12, qn13, qn14, qn15, qn16, qn17, qn18, qn24, qn30, qn31, qn32, qn33, qn36, qn38, qn40, qn41, qn42, qn43, qn45, qn47, qn48, qn49, qn50, qn51, qn52, qn53, qn57, qn58, qn59, qn60, qn61, qn62, qn63, qn91, qn93, qn97, qn99, qn100, qn103, qn104, qn112, qn113, qn115, qn116, qn118, qn119, qn121, qn124, qn173, qn177, qn240, qn255, qn295, qn352, qn353, qn533, qn999, qn1000, qn1023, qn6561, qn10000, qn20787, qn1000000, qn252645135, qn858993459, qn1000000000, qn1431655765, q_s1, q_s2, q_s3, q_s4, q_s5, iI_add, iI_sub, iI_mul, iI_neg, q_lt, q_le, q_eq, qz0, qz1, qz2, qz3, if_pos, if_neg, reduceIte, e1, e2, e3, e4, e5]
        · rw [if_neg c6] at e5 ⊢
          have e6 : gs_wr (tp_m (it_M M 7 o 3 g) p (-1)) 7 3 (iI (o + k)) (iI v) = some (tp_m (it_M M 7 o 3 (ma_su g k v)) p (-1)) := by
            rw [q_wrn (o + k) (by omega) (by omega) (by decide), tp_ur _ (by decide), it_M_u (by omega)]
          have hz2 : z ||| 2 ^ k < 2 ^ 3 := Nat.or_lt_two_pow hz (Nat.pow_lt_pow_right (by decide) (by omega))
          have hc2 : ma_ct (z ||| 2 ^ k) 3 = i + 1 := by rw [ma_ct_o hb, hc, if_pos (by omega)]
          obtain ⟨g', a', e7⟩ := ih (i + 1) p f (z ||| 2 ^ k) (ma_su g k v) M K (by omega) (by omega) (by omega) hz2 hc2
          refine ⟨g', a', ?_⟩
          have e8 : l_X9_readItems_2_6 (iI o) (f + 1) (iI z) (iI i) (tp_m (it_M M 7 o 3 g) a (-1)) = l_X9_readItems_2_6 (iI o) f (iI ((z ||| 2 ^ k : Nat) : Int)) (iI ((i + 1 : Nat) : Int)) (tp_m (it_M M 7 o 3 (ma_su g k v)) p (-1)) := by
            simp only [l_X9_readItems_2_6]
            rw [hln]
            simp (disch := omega) only [qn0, qn1, qn2, qn3, qn4, qn5, qn6, qn7, qn8, qn9, qn10, qn11, qn12, qn13, qn14, qn15, qn16, qn17, qn18, qn24, qn30, qn31, qn32, qn33, qn36, qn38, qn40, qn41, qn42, qn43, qn45, qn47, qn48, qn49, qn50, qn51, qn52, qn53, qn57, qn58, qn59, qn60, qn61, qn62, qn63, qn91, qn93, qn97, qn99, qn100, qn103, qn104, qn112, qn113, qn115, qn116, qn118, qn119, qn121, qn124, qn173, qn177, qn240, qn255, qn295, qn352, qn353, qn533, qn999, qn1000, qn1023, qn6561, qn10000, qn20787, qn1000000, qn252645135, qn858993459, qn1000000000, qn1431655765, q_s1, q_s2, q_s3, q_s4, q_s5, iI_add, iI_sub, iI_mul, iI_neg, q_lt, q_le, q_eq, qz0, qz1, qz2, qz3, if_pos, if_neg, reduceIte, e1, e2, e3, e4, e5, e6, b_sh, b_or]
            rfl
          rw [e8]
          exact e7
theorem c_it1 (w : tp_w b n) (hk : ∀ z, -1 ≤ it_s1 z ∧ it_s1 z < 5) {o : Nat} (ho : o + 5 ≤ 40) : ∀ (d i a f z : Nat) (g : Nat → Int) (M : gs_M), tp_K b n M → i + d = 5 + 1 → a ≤ n → d < f → z < 2 ^ 5 → ma_ct z 5 = i → ∃ g' a', (match it_go b n it_s1 it_lo1 it_hi1 d a z g with | .inl e => l_X9_readItems_6 (iI o) f (iI z) (iI i) (tp_m (it_M M 8 o 5 g) a (-1)) = some (iI 0, tp_m (it_M M 8 o 5 g') a' e) | .inr q => l_X9_readItems_6 (iI o) f (iI z) (iI i) (tp_m (it_M M 8 o 5 g) a (-1)) = some (iI 1, tp_m (it_M M 8 o 5 q.2) q.1 (-1))) := by
  have w1 := w.1
  have hln : gs_ln 1 = iI 5 := rfl
  intro d
  induction d with
  | zero =>
    intro i a f z g M K hi ha hf hz hc
    have := ma_ct_le z 5
    omega
  | succ d ih =>
    intro i a f z g M K hi ha hf hz hc
    obtain ⟨f, rfl⟩ : ∃ k, f = k + 1 := ⟨f - 1, by omega⟩
    have K1 : tp_K b n (it_M M 8 o 5 g) := it_K K (by decide) (by decide)
    have h1 := tp_s_b (b := b) ha
    have hl := tp_l_b (a := a) w
    have e0 := c_ends w K1 ha
    have e0' := c_ends w K1 h1.2
    rw [tp_ll ha, tp_ss ha] at e0'
    have e1 := c_lt1 (t := -1) w K1 ha
    have hs := hk (tp_l b n a)
    simp only [it_go]
    by_cases c : it_s1 (tp_l b n a) = -1 ∨ z.testBit (it_s1 (tp_l b n a)).toNat = true
    · rw [if_pos c]
      by_cases c2 : tp_l b n a = 59 ∨ tp_l b n a = -1
      · rw [if_pos c2] at e0 e0' ⊢
        refine ⟨g, 0, ?_⟩
        simp only [l_X9_readItems_6]
        rw [hln]
        rcases (by omega : i = 5 ∨ (i < 5 ∧ it_s1 (tp_l b n a) = -1) ∨ (i < 5 ∧ it_s1 (tp_l b n a) ≠ -1)) with c3 | c3 | c3
        · simp (disch := omega) only [qn0, qn1, qn2, qn3, qn4, qn5, qn6, qn7, qn8, qn9, qn10, qn11, qn12, qn13, qn14, qn15, qn16, qn17, qn18, qn24, qn30, qn31, qn32, qn33, qn36, qn38, qn40, qn41, qn42, qn43, qn45, qn47, qn48, qn49, qn50, qn51, qn52, qn53, qn57, qn58, qn59, qn60, qn61, qn62, qn63, qn91, qn93, qn97, qn99, qn100, qn103, qn104, qn112, qn113, qn115, qn116, qn118, qn119, qn121, qn124, qn173, qn177, qn240, qn255, qn295, qn352, qn353, qn533, qn999, qn1000, qn1023, qn6561, qn10000, qn20787, qn1000000, qn252645135, qn858993459, qn1000000000, qn1431655765, q_s1, q_s2, q_s3, q_s4, q_s5, iI_add, iI_sub, iI_mul, iI_neg, q_lt, q_le, q_eq, qz0, qz1, qz2, qz3, if_pos, if_neg, reduceIte, e0]
        · simp (disch := omega) only [qn0, qn1, qn2, qn3, qn4, qn5, qn6, qn7, qn8, qn9, qn10, qn11, qn12, qn13, qn14, qn15, qn16, qn17, qn18, qn24, qn30, qn31, qn32, qn33, qn36, qn38, qn40, qn41, qn42, qn43, qn45, qn47, qn48, qn49, qn50, qn51, qn52, qn53, qn57, qn58, qn59, qn60, qn61, qn62, qn63, qn91, qn93, qn97, qn99, qn100, qn103, qn104, qn112, qn113, qn115, qn116, qn118, qn119, qn121, qn124, qn173, qn177, qn240, qn255, qn295, qn352, qn353, qn533, qn999, qn1000, qn1023, qn6561, qn10000, qn20787, qn1000000, qn252645135, qn858993459, qn1000000000, qn1431655765, q_s1, q_s2, q_s3, q_s4, q_s5, iI_add, iI_sub, iI_mul, iI_neg, q_lt, q_le, q_eq, qz0, qz1, qz2, qz3, if_pos, if_neg, reduceIte, e1, c3.2, e0']
        · have e2 := b_tb (z := z) (i := (it_s1 (tp_l b n a)).toNat) (by omega) (by omega)
          rw [show (((it_s1 (tp_l b n a)).toNat : Nat) : Int) = it_s1 (tp_l b n a) by omega] at e2
          rcases c with c | c
          · omega
          · rw [if_pos c] at e2
            simp (disch := omega) only [qn0, qn1, qn2, qn3, qn4, qn5, qn6, qn7, qn8, qn9, qn10, qn11, qn12, qn13, qn14, qn15, qn16, qn17, qn18, qn24, qn30, qn31, qn32, qn33, qn36, qn38, qn40, qn41, qn42, qn43, qn45, qn47, qn48, qn49, qn50, qn51, qn52, qn53, qn57, qn58, qn59, qn60, qn61, qn62, qn63, qn91, qn93, qn97, qn99, qn100, qn103, qn104, qn112, qn113, qn115, qn116, qn118, qn119, qn121, qn124, qn173, qn177, qn240, qn255, qn295, qn352, qn353, qn533, qn999, qn1000, qn1023, qn6561, qn10000, qn20787, qn1000000, qn252645135, qn858993459, qn1000000000, qn1431655765, q_s1, q_s2, q_s3, q_s4, q_s5, iI_add, iI_sub, iI_mul, iI_neg, q_lt, q_le, q_eq, qz0, qz1, qz2, qz3, if_pos, if_neg, reduceIte, e1, e2, e0']
      · rw [if_neg c2] at e0 e0' ⊢
        refine ⟨g, tp_s b n a, ?_⟩
        simp only [l_X9_readItems_6]
        rw [hln]
        rcases (by omega : i = 5 ∨ (i < 5 ∧ it_s1 (tp_l b n a) = -1) ∨ (i < 5 ∧ it_s1 (tp_l b n a) ≠ -1)) with c3 | c3 | c3
        · simp (disch := omega) only [qn0, qn1, qn2, qn3, qn4, qn5, qn6, qn7, qn8, qn9, qn10, qn11, qn12, qn13, qn14, qn15, qn16, qn17, qn18, qn24, qn30, qn31, qn32, qn33, qn36, qn38, qn40, qn41, qn42, qn43, qn45, qn47, qn48, qn49, qn50, qn51, qn52, qn53, qn57, qn58, qn59, qn60, qn61, qn62, qn63, qn91, qn93, qn97, qn99, qn100, qn103, qn104, qn112, qn113, qn115, qn116, qn118, qn119, qn121, qn124, qn173, qn177, qn240, qn255, qn295, qn352, qn353, qn533, qn999, qn1000, qn1023, qn6561, qn10000, qn20787, qn1000000, qn252645135, qn858993459, qn1000000000, qn1431655765, q_s1, q_s2, q_s3, q_s4, q_s5, iI_add, iI_sub, iI_mul, iI_neg, q_lt, q_le, q_eq, qz0, qz1, qz2, qz3, if_pos, if_neg, reduceIte, e0]
        · simp (disch := omega) only [qn0, qn1, qn2, qn3, qn4, qn5, qn6, qn7, qn8, qn9, qn10, qn11, qn12, qn13, qn14, qn15, qn16, qn17, qn18, qn24, qn30, qn31, qn32, qn33, qn36, qn38, qn40, qn41, qn42, qn43, qn45, qn47, qn48, qn49, qn50, qn51, qn52, qn53, qn57, qn58, qn59, qn60, qn61, qn62, qn63, qn91, qn93, qn97, qn99, qn100, qn103, qn104, qn112, qn113, qn115, qn116, qn118, qn119, qn121, qn124, qn173, qn177, qn240, qn255, qn295, qn352, qn353, qn533, qn999, qn1000, qn1023, qn6561, qn10000, qn20787, qn1000000, qn252645135, qn858993459, qn1000000000, qn1431655765, q_s1, q_s2, q_s3, q_s4, q_s5, iI_add, iI_sub, iI_mul, iI_neg, q_lt, q_le, q_eq, qz0, qz1, qz2, qz3, if_pos, if_neg, reduceIte, e1, c3.2, e0']
        · have e2 := b_tb (z := z) (i := (it_s1 (tp_l b n a)).toNat) (by omega) (by omega)
          rw [show (((it_s1 (tp_l b n a)).toNat : Nat) : Int) = it_s1 (tp_l b n a) by omega] at e2
          rcases c with c | c
          · omega
          · rw [if_pos c] at e2
            simp (disch := omega) only [qn0, qn1, qn2, qn3, qn4, qn5, qn6, qn7, qn8, qn9, qn10, qn11, qn12, qn13, qn14, qn15, qn16, qn17, qn18, qn24, qn30, qn31, qn32, qn33, qn36, qn38, qn40, qn41, qn42, qn43, qn45, qn47, qn48, qn49, qn50, qn51, qn52, qn53, qn57, qn58, qn59, qn60, qn61, qn62, qn63, qn91, qn93, qn97, qn99, qn100, qn103, qn104, qn112, qn113, qn115, qn116, qn118, qn119, qn121, qn124, qn173, qn177, qn240, qn255, qn295, qn352, qn353, qn533, qn999, qn1000, qn1023, qn6561, qn10000, qn20787, qn1000000, qn252645135, qn858993459, qn1000000000, qn1431655765, q_s1, q_s2, q_s3, q_s4, q_s5, iI_add, iI_sub, iI_mul, iI_neg, q_lt, q_le, q_eq, qz0, qz1, qz2, qz3, if_pos, if_neg, reduceIte, e1, e2, e0']
    · rw [if_neg c]
      obtain ⟨k, hk'⟩ : ∃ k : Nat, it_s1 (tp_l b n a) = k := ⟨(it_s1 (tp_l b n a)).toNat, by omega⟩
      rw [hk', Int.toNat_natCast] at c ⊢
      rw [hk'] at e1 hs
      have hb : z.testBit k = false := by
        cases hh : z.testBit k
        · rfl
        · exact absurd (Or.inr hh) c
      have hi5 : i < 5 := by
        have := ma_ct_lt (z := z) (n := 5) (j := k) (by omega) hb
        omega
      have hsn : tp_s b n a < n := by
        rcases hl with c5 | c5
        · rw [c5.1] at hk'
          have : it_s1 (-1) = -1 := rfl
          omega
        · exact c5.2.2.1
      have e2 := b_tb (z := z) (i := k) (by omega) (by omega)
      rw [if_neg (by rw [hb]; decide)] at e2
      have e3 : gs_rd (fun _ => gs_sv 3) 0 (gs_sn 3) (iI k) = some (iI (it_lo1 k)) := q_r1lo k (by omega)
      have e4 : gs_rd (fun _ => gs_sv 4) 0 (gs_sn 4) (iI k) = some (iI (it_hi1 k)) := q_r1hi k (by omega)
      have hlo : 0 ≤ it_lo1 k ∧ it_lo1 k ≤ 99 := by unfold it_lo1; (try split) <;> omega
      have hhi : 0 ≤ it_hi1 k ∧ it_hi1 k ≤ 99 := by unfold it_hi1; (try split) <;> omega
      have e5 := c_item w K1 hsn (x := it_lo1 k) (y := it_hi1 k) hlo hhi
      have hbn := fun q => tp_n_b w (a := tp_s b n a + 1) (by omega) (q := q)
      revert e5 hbn
      generalize tp_n b n 2 (tp_s b n a + 1) = R
      intro e5 hbn
      match R, e5, hbn with
      | .inl e, e5, hbn =>
        simp only at e5 ⊢
        refine ⟨g, e, ?_⟩
        simp only [l_X9_readItems_6]
        rw [hln]
        simp (disch := omega) only [qn0, qn1, qn2, qn3, qn4, qn5, qn6, qn7, qn8, qn9, qn10, qn11, qn12, qn13, qn14, qn15, qn16, qn17, qn18, qn24, qn30, qn31, qn32, qn33, qn36, qn38, qn40, qn41, qn42, qn43, qn45, qn47, qn48, qn49, qn50, qn51, qn52, qn53, qn57, qn58, qn59, qn60, qn61, qn62, qn63, qn91, qn93, qn97, qn99, qn100, qn103, qn104, qn112, qn113, qn115, qn116, qn118, qn119, qn121, qn124, qn173, qn177, qn240, qn255, qn295, qn352, qn353, qn533, qn999, qn1000, qn1023, qn6561, qn10000, qn20787, qn1000000, qn252645135, qn858993459, qn1000000000, qn1431655765, q_s1, q_s2, q_s3, q_s4, q_s5, iI_add, iI_sub, iI_mul, iI_neg, q_lt, q_le, q_eq, qz0, qz1, qz2, qz3, if_pos, if_neg, reduceIte, e1, e2, e3, e4, e5]
      | .inr (p, v), e5, hbn =>
        have hb' := hbn (p, v) rfl
        simp only at e5 hb' ⊢
        by_cases c6 : v < it_lo1 k ∨ it_hi1 k < v
        · rw [if_pos c6] at e5 ⊢
          refine ⟨g, p, ?_⟩
          simp only [l_X9_readItems_6]
          rw [hln]
          simp (disch := omega) only [qn0, qn1, qn2, qn3, qn4, qn5, qn6, qn7, qn8, qn9, qn10, qn11, qn12, qn13, qn14, qn15, qn16, qn17, qn18, qn24, qn30, qn31, qn32, qn33, qn36, qn38, qn40, qn41, qn42, qn43, qn45, qn47, qn48, qn49, qn50, qn51, qn52, qn53, qn57, qn58, qn59, qn60, qn61, qn62, qn63, qn91, qn93, qn97, qn99, qn100, qn103, qn104, qn112, qn113, qn115, qn116, qn118, qn119, qn121, qn124, qn173, qn177, qn240, qn255, qn295, qn352, qn353, qn533, qn999, qn1000, qn1023, qn6561, qn10000, qn20787, qn1000000, qn252645135, qn858993459, qn1000000000, qn1431655765, q_s1, q_s2, q_s3, q_s4, q_s5, iI_add, iI_sub, iI_mul, iI_neg, q_lt, q_le, q_eq, qz0, qz1, qz2, qz3, if_pos, if_neg, reduceIte, e1, e2, e3, e4, e5]
        · rw [if_neg c6] at e5 ⊢
          have e6 : gs_wr (tp_m (it_M M 8 o 5 g) p (-1)) 8 40 (iI (o + k)) (iI v) = some (tp_m (it_M M 8 o 5 (ma_su g k v)) p (-1)) := by
            rw [q_wrn (o + k) (by omega) (by omega) (by decide), tp_ur _ (by decide), it_M_u (by omega)]
          have hz2 : z ||| 2 ^ k < 2 ^ 5 := Nat.or_lt_two_pow hz (Nat.pow_lt_pow_right (by decide) (by omega))
          have hc2 : ma_ct (z ||| 2 ^ k) 5 = i + 1 := by rw [ma_ct_o hb, hc, if_pos (by omega)]
          obtain ⟨g', a', e7⟩ := ih (i + 1) p f (z ||| 2 ^ k) (ma_su g k v) M K (by omega) (by omega) (by omega) hz2 hc2
          refine ⟨g', a', ?_⟩
          have e8 : l_X9_readItems_6 (iI o) (f + 1) (iI z) (iI i) (tp_m (it_M M 8 o 5 g) a (-1)) = l_X9_readItems_6 (iI o) f (iI ((z ||| 2 ^ k : Nat) : Int)) (iI ((i + 1 : Nat) : Int)) (tp_m (it_M M 8 o 5 (ma_su g k v)) p (-1)) := by
            simp only [l_X9_readItems_6]
            rw [hln]
            simp (disch := omega) only [qn0, qn1, qn2, qn3, qn4, qn5, qn6, qn7, qn8, qn9, qn10, qn11, qn12, qn13, qn14, qn15, qn16, qn17, qn18, qn24, qn30, qn31, qn32, qn33, qn36, qn38, qn40, qn41, qn42, qn43, qn45, qn47, qn48, qn49, qn50, qn51, qn52, qn53, qn57, qn58, qn59, qn60, qn61, qn62, qn63, qn91, qn93, qn97, qn99, qn100, qn103, qn104, qn112, qn113, qn115, qn116, qn118, qn119, qn121, qn124, qn173, qn177, qn240, qn255, qn295, qn352, qn353, qn533, qn999, qn1000, qn1023, qn6561, qn10000, qn20787, qn1000000, qn252645135, qn858993459, qn1000000000, qn1431655765, q_s1, q_s2, q_s3, q_s4, q_s5, iI_add, iI_sub, iI_mul, iI_neg, q_lt, q_le, q_eq, qz0, qz1, qz2, qz3, if_pos, if_neg, reduceIte, e1, e2, e3, e4, e5, e6, b_sh, b_or]
            rfl
          rw [e8]
          exact e7
end Items
