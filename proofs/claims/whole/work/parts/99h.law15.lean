/-! clauses as the class writes them -/
def lr_Y (r : Nat) (M N : gs_M) : Prop := ∀ x z, ¬ (x = r ∧ (z = 5 ∨ z = 6)) → x ≠ r + 1 → x ≠ r + 2 → x ≠ r + 3 → x ≠ r + 4 → N x z = M x z
def lr_E (r : Nat) (l : List lr_L) (N : gs_M) : Prop := N r 6 = iI (l.length : Nat) ∧ ∀ (j : Nat) (x : lr_L), l[j]? = some x → N (r + 4) j = iI x.1 ∧ N (r + 2) j = iI ((lr_fl (l.take j)).length : Nat) ∧ N (r + 3) j = iI (((lr_fl (l.take j)).length + x.2.1.length : Nat) : Int)
section Law15
variable {b : Nat → Int} {n r a p : Nat} {t : Int} {M N N' : gs_M} {l : List lr_L} {q : lr_Q} {kd : Int} {x y : lr_L} {pre : List Int}
theorem lr_X.Y (h : lr_X r M N) : lr_Y r M N := fun x z h1 h2 _ _ _ => h x z (by omega) h2
theorem lr_Y.tr (h : lr_Y r M N) (h2 : lr_Y r N N') : lr_Y r M N' := fun x z a1 a2 a3 a4 a5 => (h2 x z a1 a2 a3 a4 a5).trans (h x z a1 a2 a3 a4 a5)
theorem lr_Y.rf : lr_Y r M M := fun _ _ _ _ _ _ _ => rfl
theorem lr_Y.K (hr : lr_r r) (K : tp_K b n M) (h : lr_Y r M N) : tp_K b n N := by
  unfold lr_r at hr
  refine ⟨?_, fun i hi => ?_⟩
  · rw [h 1 1 (by omega) (by omega) (by omega) (by omega) (by omega)]
    exact K.1
  · rw [h 2 i (by omega) (by omega) (by omega) (by omega) (by omega)]
    exact K.2 i hi
theorem lr_Y.h (hr : lr_r r) (hM : M 104 1 = nI r) (h : lr_Y r M N) : N 104 1 = nI r := by
  unfold lr_r at hr
  rw [h 104 1 (by omega) (by omega) (by omega) (by omega) (by omega)]
  exact hM
theorem lr_E.X (h : lr_E r l N) (hX : lr_X r N N') : lr_E r l N' := by
  refine ⟨?_, fun j x hx => ?_⟩
  · rw [hX r 6 (by omega) (by omega)]
    exact h.1
  · rw [hX (r + 4) j (by omega) (by omega), hX (r + 2) j (by omega) (by omega), hX (r + 3) j (by omega) (by omega)]
    exact h.2 j x hx
theorem lr_E_mk (h0 : ∀ (j : Nat) (x : lr_L), l[j]? = some x → N (r + 4) j = iI x.1 ∧ N (r + 2) j = iI ((lr_fl (l.take j)).length : Nat) ∧ N (r + 3) j = iI (((lr_fl (l.take j)).length + x.2.1.length : Nat) : Int)) (h1 : N r 6 = iI ((l.length : Int) + 1)) (h2 : N (r + 4) l.length = iI x.1) (h3 : N (r + 2) l.length = iI ((lr_fl l).length : Nat)) (h4 : N (r + 3) l.length = iI (((lr_fl l).length + x.2.1.length : Nat) : Int)) : lr_E r (l ++ [x]) N := by
  refine ⟨?_, fun j z hz => ?_⟩
  · rw [h1, List.length_append]
    rfl
  · have hj : j < (l ++ [x]).length := by
      rcases (by omega : j < (l ++ [x]).length ∨ (l ++ [x]).length ≤ j) with c | c
      · exact c
      · rw [List.getElem?_eq_none c] at hz
        cases hz
    rw [List.length_append] at hj
    simp only [List.length_cons, List.length_nil] at hj
    have t : (l ++ [x]).take j = l.take j := List.take_append_of_le_length (by omega)
    rw [t]
    by_cases c : j < l.length
    · rw [List.getElem?_append_left c] at hz
      exact h0 j z hz
    · have e : j = l.length := by omega
      subst e
      rw [List.getElem?_append_right (Nat.le_refl _), Nat.sub_self] at hz
      cases hz
      rw [List.take_length]
      exact ⟨h2, h3, h4⟩
theorem lr_E_un (h : lr_E r (l ++ [x]) N) : (∀ (j : Nat) (x : lr_L), l[j]? = some x → N (r + 4) j = iI x.1 ∧ N (r + 2) j = iI ((lr_fl (l.take j)).length : Nat) ∧ N (r + 3) j = iI (((lr_fl (l.take j)).length + x.2.1.length : Nat) : Int)) ∧ N r 6 = iI ((l.length : Int) + 1) ∧ N (r + 4) l.length = iI x.1 ∧ N (r + 2) l.length = iI ((lr_fl l).length : Nat) ∧ N (r + 3) l.length = iI (((lr_fl l).length + x.2.1.length : Nat) : Int) := by
  refine ⟨fun j z hz => ?_, ?_, ?_⟩
  · have hj : j < l.length := by
      rcases (by omega : j < l.length ∨ l.length ≤ j) with c | c
      · exact c
      · rw [List.getElem?_eq_none c] at hz
        cases hz
    have := h.2 j z (by rw [List.getElem?_append_left hj]; exact hz)
    rw [List.take_append_of_le_length (by omega)] at this
    exact this
  · have := h.1
    rw [List.length_append] at this
    exact this
  · have := h.2 l.length x (by rw [List.getElem?_append_right (Nat.le_refl _), Nat.sub_self]; rfl)
    rw [List.take_append_of_le_length (Nat.le_refl _), List.take_length] at this
    exact this
theorem lr_E_eq (h : lr_E r (l ++ [x]) N) (h1 : y.1 = x.1) (h2 : y.2.1.length = x.2.1.length) : lr_E r (l ++ [y]) N := by
  obtain ⟨g0, g1, g2, g3, g4⟩ := lr_E_un h
  exact lr_E_mk g0 g1 (by rw [h1]; exact g2) g3 (by rw [h2]; exact g4)
theorem c_open (hr : lr_r r) (hK : lr_K r (lr_fl l) N) (hE : lr_E r l N) (hl : l.length < 61) (hx : x.1 = kd) (hx2 : x.2.1 = []) : ∃ N1, f_X2_open (tp_m N a t) r (iI kd) = some (tp_m N1 a t) ∧ lr_Y r N N1 ∧ lr_K r (lr_fl l) N1 ∧ lr_E r (l ++ [x]) N1 := by
  have hr' := hr
  unfold lr_r at hr'
  have e0 : ∀ Z : gs_M, tp_m Z a t r = Z r := fun Z => tp_mr (by omega)
  have e6 := hE.1
  have e5 := hK.1
  have eW : ∀ (Z : gs_M) (y : Nat) (v : Int32), y ≠ 1 → gs_wr (tp_m Z a t) y 61 (iI (l.length : Nat)) v = some (tp_m (gs_up Z y l.length v) a t) := fun Z y v hy => by
    rw [q_wrn l.length rfl (by omega) (by decide), tp_ur _ hy]
  have u1 : ∀ v, gs_wr (tp_m N a t) (r + 4) 61 (iI (l.length : Nat)) v = some (tp_m (gs_up N (r + 4) l.length v) a t) := fun v => eW _ _ _ (by omega)
  have u2 : ∀ Z v, gs_wr (tp_m Z a t) (r + 2) 61 (iI (l.length : Nat)) v = some (tp_m (gs_up Z (r + 2) l.length v) a t) := fun Z v => eW _ _ _ (by omega)
  have u3 : ∀ Z v, gs_wr (tp_m Z a t) (r + 3) 61 (iI (l.length : Nat)) v = some (tp_m (gs_up Z (r + 3) l.length v) a t) := fun Z v => eW _ _ _ (by omega)
  have u4 : ∀ Z v, gs_up (tp_m Z a t) r 6 v = tp_m (gs_up Z r 6 v) a t := fun Z v => tp_ur _ (by omega)
  have r4 : ∀ (Z : gs_M) (v : Int32), gs_up Z (r + 4) l.length v r = Z r := fun Z v => ma_row_ne _ _ _ _ _ (by omega)
  have r2 : ∀ (Z : gs_M) (v : Int32), gs_up Z (r + 2) l.length v r = Z r := fun Z v => ma_row_ne _ _ _ _ _ (by omega)
  have r3 : ∀ (Z : gs_M) (v : Int32), gs_up Z (r + 3) l.length v r = Z r := fun Z v => ma_row_ne _ _ _ _ _ (by omega)
  refine ⟨gs_up (gs_up (gs_up (gs_up N (r + 4) l.length (iI kd)) (r + 2) l.length (iI ((lr_fl l).length : Nat))) (r + 3) l.length (iI ((lr_fl l).length : Nat))) r 6 (iI ((l.length : Int) + 1)), ?_, fun x z h1 h2 h3 h4 h5 => ?_, ⟨?_, fun j hj => ?_⟩, lr_E_mk (fun j z hz => ?_) (gs_up_eq _ _ _ _) ?_ ?_ ?_⟩
  · unfold f_X2_open
    simp (disch := omega) only [qn0, qn1, qn2, qn3, qn4, qn5, qn6, qn7, qn8, qn9, qn10, qn11, qn12, qn13, qn14, qn15, qn16, qn17, qn18, qn24, qn30, qn31, qn32, qn33, qn36, qn38, qn40, qn41, qn42, qn43, qn45, qn47, qn48, qn49, qn50, qn51, qn52, qn53, qn57, qn58, qn59, qn60, qn61, qn62, qn63, qn91, qn93, qn97, qn99, qn100, qn103, qn104, qn112, qn113, qn115, qn116, qn118, qn119, qn121, qn124, qn173, qn177, qn240, qn255, qn295, qn352, qn353, qn533, qn999, qn1000, qn1023, qn6561, qn10000, qn20787, qn1000000, qn252645135, qn858993459, qn1000000000, qn1431655765, q_s1, q_s2, q_s3, q_s4, q_s5, iI_add, iI_sub, iI_mul, iI_neg, q_lt, q_le, q_eq, qz0, qz1, qz2, qz3, if_pos, if_neg, reduceIte, e0, e6, e5, u1, u2, u3, u4, r4, r2, r3]
  · rw [ma_cell_ne _ _ _ _ _ _ (by omega), ma_row_ne _ _ _ _ _ h4, ma_row_ne _ _ _ _ _ h3, ma_row_ne _ _ _ _ _ h5]
  · rw [ma_cell_ne _ _ _ _ _ _ (by omega), r3, r2, r4]
    exact e5
  · rw [ma_row_ne _ _ _ _ _ (by omega), ma_row_ne _ _ _ _ _ (by omega), ma_row_ne _ _ _ _ _ (by omega), ma_row_ne _ _ _ _ _ (by omega)]
    exact hK.2 j hj
  · have hj : j < l.length := by
      rcases (by omega : j < l.length ∨ l.length ≤ j) with c | c
      · exact c
      · rw [List.getElem?_eq_none c] at hz
        cases hz
    rw [ma_cell_ne _ _ _ _ _ _ (by omega), ma_cell_ne _ _ _ _ _ _ (by omega), ma_cell_ne _ _ _ _ _ _ (by omega), ma_cell_ne _ _ _ _ _ _ (by omega), ma_cell_ne _ _ _ _ _ _ (by omega), ma_cell_ne _ _ _ _ _ _ (by omega), ma_cell_ne _ _ _ _ _ _ (by omega), ma_cell_ne _ _ _ _ _ _ (by omega), ma_cell_ne _ _ _ _ _ _ (by omega), ma_cell_ne _ _ _ _ _ _ (by omega), ma_cell_ne _ _ _ _ _ _ (by omega), ma_cell_ne _ _ _ _ _ _ (by omega)]
    exact hE.2 j z hz
  · rw [ma_row_ne _ _ _ _ _ (by omega), ma_row_ne _ _ _ _ _ (by omega), ma_row_ne _ _ _ _ _ (by omega), gs_up_eq, hx]
  · rw [ma_row_ne _ _ _ _ _ (by omega), ma_row_ne _ _ _ _ _ (by omega), gs_up_eq]
  · rw [ma_row_ne _ _ _ _ _ (by omega), gs_up_eq, hx2]
    rfl
theorem c_endC (hr : lr_r r) (hK : lr_K r pre N) (hE : lr_E r (l ++ [x]) N) (hl : l.length < 61) (hy : y.1 = x.1) (hp : pre.length = (lr_fl l).length + y.2.1.length) : ∃ N1, f_X2_endCondition (tp_m N a t) r = some (tp_m N1 a t) ∧ lr_Y r N N1 ∧ lr_K r pre N1 ∧ lr_E r (l ++ [y]) N1 := by
  have hr' := hr
  unfold lr_r at hr'
  have e0 : ∀ Z : gs_M, tp_m Z a t r = Z r := fun Z => tp_mr (by omega)
  obtain ⟨g0, e6, g2, g3, g4⟩ := lr_E_un hE
  have e5 := hK.1
  have u3 : ∀ Z v, gs_wr (tp_m Z a t) (r + 3) 61 (iI ((l.length : Int) + 1 - 1)) v = some (tp_m (gs_up Z (r + 3) l.length v) a t) := fun Z v => by
    rw [q_wrn l.length (by omega) (by omega) (by decide), tp_ur _ (by omega)]
  refine ⟨gs_up N (r + 3) l.length (iI (pre.length : Nat)), ?_, fun x z h1 h2 h3 h4 h5 => ma_cell_ne _ _ _ _ _ _ (by omega), ⟨?_, fun j hj => ?_⟩, lr_E_mk (fun j z hz => ?_) ?_ ?_ ?_ ?_⟩
  · unfold f_X2_endCondition
    simp (disch := omega) only [qn0, qn1, qn2, qn3, qn4, qn5, qn6, qn7, qn8, qn9, qn10, qn11, qn12, qn13, qn14, qn15, qn16, qn17, qn18, qn24, qn30, qn31, qn32, qn33, qn36, qn38, qn40, qn41, qn42, qn43, qn45, qn47, qn48, qn49, qn50, qn51, qn52, qn53, qn57, qn58, qn59, qn60, qn61, qn62, qn63, qn91, qn93, qn97, qn99, qn100, qn103, qn104, qn112, qn113, qn115, qn116, qn118, qn119, qn121, qn124, qn173, qn177, qn240, qn255, qn295, qn352, qn353, qn533, qn999, qn1000, qn1023, qn6561, qn10000, qn20787, qn1000000, qn252645135, qn858993459, qn1000000000, qn1431655765, q_s1, q_s2, q_s3, q_s4, q_s5, iI_add, iI_sub, iI_mul, iI_neg, q_lt, q_le, q_eq, qz0, qz1, qz2, qz3, if_pos, if_neg, reduceIte, e0, e6, e5, u3]
  · rw [ma_row_ne _ _ _ _ _ (by omega)]
    exact e5
  · rw [ma_row_ne _ _ _ _ _ (by omega)]
    exact hK.2 j hj
  · have hj : j < l.length := by
      rcases (by omega : j < l.length ∨ l.length ≤ j) with c | c
      · exact c
      · rw [List.getElem?_eq_none c] at hz
        cases hz
    rw [ma_cell_ne _ _ _ _ _ _ (by omega), ma_cell_ne _ _ _ _ _ _ (by omega), ma_cell_ne _ _ _ _ _ _ (by omega)]
    exact g0 j z hz
  · rw [ma_row_ne _ _ _ _ _ (by omega)]
    exact e6
  · rw [ma_row_ne _ _ _ _ _ (by omega), hy]
    exact g2
  · rw [ma_row_ne _ _ _ _ _ (by omega)]
    exact g3
  · rw [gs_up_eq, hp]
/-- the ruling behind a condition -/
theorem c_ruling (w : tp_w b n) (hr : lr_r r) (K : tp_K b n N) (hN : N 104 1 = nI r) (hq : q.1 ≤ n) (hK : lr_K r (lr_fl l ++ q.2.1) N) (hlen : (lr_fl l ++ q.2.1).length ≤ q.1) (hE : lr_E r (l ++ [x]) N) (hx : x.1 = kd) (hl : l.length < 61) : ∃ N' a', lr_Y r N N' ∧ (∀ e, lr_ru b n kd q = .inl e → f_X3_readRuling (tp_m N q.1 (-1)) = some (iI 0, tp_m N' a' e)) ∧ ∀ y, lr_ru b n kd q = .inr y → lr_K r (lr_fl (l ++ [y.2])) N' ∧ lr_E r (l ++ [y.2]) N' ∧ f_X3_readRuling (tp_m N q.1 (-1)) = some (iI 1, tp_m N' y.1 (-1)) := by
  have w1 := w.1
  have hs := tp_s_b (b := b) hq
  have hl2 := tp_l_b (a := q.1) w
  have e4 := c_take w K hq (c := 63) (by decide)
  by_cases c : tp_l b n q.1 = 63
  · rw [if_pos c] at e4
    have eW : ∀ a' t', gs_ckW (tp_m N a' t' 104 1).toNatClampNeg = some r := fun a' t' => c_ckW hr hN (fun _ _ _ _ => rfl)
    obtain ⟨N1, e5, y1, K1, E1⟩ := c_endC (a := tp_s b n q.1 + 1) (t := -1) (y := (kd, q.2.1, q.2.2, [], q.2.2)) hr hK hE hl hx.symm (List.length_append ..)
    have KN1 := y1.K hr K
    have hN1 := y1.h hr hN
    obtain ⟨N2, a2, k0, k1, k2⟩ := c_S w hr KN1 hN1 6 0 64 rfl (by decide) (tp_s b n q.1 + 1) N1 _ (by omega) (fun _ _ _ _ => rfl) K1 (by omega)
    match hR : lr_S b n 6 (tp_s b n q.1 + 1) with
    | .inl u =>
      obtain ⟨k3, k4⟩ := k1 u hR
      have k4' : g_0 64 0 (iI 0) (tp_m N1 (tp_s b n q.1 + 1) (-1)) = some (iI 0, tp_m N2 a2 u) := k4
      have e : lr_ru b n kd q = .inl u := by
        unfold lr_ru
        rw [if_pos c, hR]
      rw [e]
      refine ⟨N2, a2, y1.tr k0.Y, fun e h => ?_, fun y h => (by cases h)⟩
      cases h
      unfold f_X3_readRuling
      simp (disch := omega) only [qn0, qn1, qn2, qn3, qn4, qn5, qn6, qn7, qn8, qn9, qn10, qn11, qn12, qn13, qn14, qn15, qn16, qn17, qn18, qn24, qn30, qn31, qn32, qn33, qn36, qn38, qn40, qn41, qn42, qn43, qn45, qn47, qn48, qn49, qn50, qn51, qn52, qn53, qn57, qn58, qn59, qn60, qn61, qn62, qn63, qn91, qn93, qn97, qn99, qn100, qn103, qn104, qn112, qn113, qn115, qn116, qn118, qn119, qn121, qn124, qn173, qn177, qn240, qn255, qn295, qn352, qn353, qn533, qn999, qn1000, qn1023, qn6561, qn10000, qn20787, qn1000000, qn252645135, qn858993459, qn1000000000, qn1431655765, q_s1, q_s2, q_s3, q_s4, q_s5, iI_add, iI_sub, iI_mul, iI_neg, q_lt, q_le, q_eq, qz0, qz1, qz2, qz3, if_pos, if_neg, reduceIte, e4, eW, e5, k4']
    | .inr z =>
      obtain ⟨k3, k4⟩ := k2 z hR
      have k4' : g_0 64 0 (iI 0) (tp_m N1 (tp_s b n q.1 + 1) (-1)) = some (iI 1, tp_m N2 z.1 (-1)) := k4
      have e : lr_ru b n kd q = .inr (z.1, kd, q.2.1, q.2.2, z.2.1, z.2.2) := by
        unfold lr_ru
        rw [if_pos c, hR]
      rw [e]
      refine ⟨N2, a2, y1.tr k0.Y, fun e h => (by cases h), fun y h => ?_⟩
      cases h
      refine ⟨?_, lr_E_eq (E1.X k0) rfl rfl, ?_⟩
      · rw [lr_fl_1, ← List.append_assoc]
        exact k3
      · unfold f_X3_readRuling
        simp (disch := omega) only [qn0, qn1, qn2, qn3, qn4, qn5, qn6, qn7, qn8, qn9, qn10, qn11, qn12, qn13, qn14, qn15, qn16, qn17, qn18, qn24, qn30, qn31, qn32, qn33, qn36, qn38, qn40, qn41, qn42, qn43, qn45, qn47, qn48, qn49, qn50, qn51, qn52, qn53, qn57, qn58, qn59, qn60, qn61, qn62, qn63, qn91, qn93, qn97, qn99, qn100, qn103, qn104, qn112, qn113, qn115, qn116, qn118, qn119, qn121, qn124, qn173, qn177, qn240, qn255, qn295, qn352, qn353, qn533, qn999, qn1000, qn1023, qn6561, qn10000, qn20787, qn1000000, qn252645135, qn858993459, qn1000000000, qn1431655765, q_s1, q_s2, q_s3, q_s4, q_s5, iI_add, iI_sub, iI_mul, iI_neg, q_lt, q_le, q_eq, qz0, qz1, qz2, qz3, if_pos, if_neg, reduceIte, e4, eW, e5, k4']
  · rw [if_neg c] at e4
    have e : lr_ru b n kd q = .inl (tp_s b n q.1) := by
      unfold lr_ru
      rw [if_neg c]
    rw [e]
    refine ⟨N, tp_s b n q.1, lr_Y.rf, fun e h => ?_, fun y h => (by cases h)⟩
    cases h
    unfold f_X3_readRuling
    simp (disch := omega) only [qn0, qn1, qn2, qn3, qn4, qn5, qn6, qn7, qn8, qn9, qn10, qn11, qn12, qn13, qn14, qn15, qn16, qn17, qn18, qn24, qn30, qn31, qn32, qn33, qn36, qn38, qn40, qn41, qn42, qn43, qn45, qn47, qn48, qn49, qn50, qn51, qn52, qn53, qn57, qn58, qn59, qn60, qn61, qn62, qn63, qn91, qn93, qn97, qn99, qn100, qn103, qn104, qn112, qn113, qn115, qn116, qn118, qn119, qn121, qn124, qn173, qn177, qn240, qn255, qn295, qn352, qn353, qn533, qn999, qn1000, qn1023, qn6561, qn10000, qn20787, qn1000000, qn252645135, qn858993459, qn1000000000, qn1431655765, q_s1, q_s2, q_s3, q_s4, q_s5, iI_add, iI_sub, iI_mul, iI_neg, q_lt, q_le, q_eq, qz0, qz1, qz2, qz3, if_pos, if_neg, reduceIte, e4]
end Law15
