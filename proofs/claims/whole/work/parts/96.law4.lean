/-! the class writes the code -/
def lr_r (r : Nat) : Prop := r = 98 ∨ r = 108 ∨ r = 114 ∨ r = 120 ∨ r = 126
def lr_X (r : Nat) (M N : gs_M) : Prop := ∀ x z, ¬ (x = r ∧ z = 5) → x ≠ r + 1 → N x z = M x z
def lr_cnt (r : Nat) (N : gs_M) : Prop := ∃ m : Nat, m ≤ 240 ∧ N r 5 = iI (m : Int)
def lr_K (r : Nat) (pre : List Int) (N : gs_M) : Prop := N r 5 = iI (pre.length : Nat) ∧ ∀ j, j < pre.length → N (r + 1) j = iI (pre.getD j 0)
section Law4
variable {b : Nat → Int} {n a r : Nat} {t : Int} {M N : gs_M} {pre : List Int}
theorem lr_X.tr {N' : gs_M} (h : lr_X r M N) (h2 : lr_X r N N') : lr_X r M N' := fun x z h1 h3 => (h2 x z h1 h3).trans (h x z h1 h3)
theorem lr_X.K (hr : lr_r r) (K : tp_K b n M) (h : lr_X r M N) : tp_K b n N := by
  unfold lr_r at hr
  refine ⟨?_, fun i hi => ?_⟩
  · rw [h 1 1 (by omega) (by omega)]
    exact K.1
  · rw [h 2 i (by omega) (by omega)]
    exact K.2 i hi
theorem lr_K.cnt (h : lr_K r pre N) (hl : pre.length ≤ 240) : lr_cnt r N := ⟨pre.length, hl, h.1⟩
theorem q_ckW : ∀ r : Nat, r = 98 ∨ r = 108 ∨ r = 114 ∨ r = 120 ∨ r = 126 → gs_ckW (nI r).toNatClampNeg = some r := by
  intro r h
  rcases h with rfl | rfl | rfl | rfl | rfl <;> decide +kernel
theorem c_ckW (hr : lr_r r) (hM : M 104 1 = nI r) (h : lr_X r M N) : gs_ckW (tp_m N a t 104 1).toNatClampNeg = some r := by
  rw [tp_mr (by decide), h 104 1 (by unfold lr_r at hr; omega) (by unfold lr_r at hr; omega), hM]
  exact q_ckW r hr
theorem c_lput0 (hr : lr_r r) (h : lr_cnt r N) (x : Int32) : ∃ N', f_X2_put (tp_m N a t) r x = some (tp_m N' a t) ∧ lr_cnt r N' ∧ lr_X r N N' ∧ ∀ m : Nat, m < 240 → N r 5 = iI (m : Int) → N' = gs_up (gs_up N (r + 1) m x) r 5 (iI ((m : Int) + 1)) := by
  obtain ⟨m, hm, e⟩ := h
  have r1 : r ≠ 1 := by unfold lr_r at hr; omega
  have r2 : r + 1 ≠ 1 := by unfold lr_r at hr; omega
  have e0 : tp_m N a t r 5 = iI (m : Int) := by rw [tp_mr r1]; exact e
  by_cases c : m = 240
  · refine ⟨N, ?_, ⟨m, hm, e⟩, fun _ _ _ _ => rfl, fun k hk hk2 => ?_⟩
    · unfold f_X2_put
      simp (disch := omega) only [qn0, qn1, qn2, qn3, qn4, qn5, qn6, qn7, qn8, qn9, qn10, qn11, qn12, qn13, qn14, qn15, qn16, qn17, qn18, qn24, qn30, qn31, qn32, qn33, qn36, qn38, qn40, qn41, qn42, qn43, qn45, qn47, qn48, qn49, qn50, qn51, qn52, qn53, qn57, qn58, qn59, qn60, qn61, qn62, qn63, qn91, qn93, qn97, qn99, qn100, qn103, qn104, qn112, qn113, qn115, qn116, qn118, qn119, qn121, qn124, qn173, qn177, qn240, qn255, qn295, qn352, qn353, qn533, qn999, qn1000, qn1023, qn6561, qn10000, qn20787, qn1000000, qn252645135, qn858993459, qn1000000000, qn1431655765, q_s1, q_s2, q_s3, q_s4, q_s5, iI_add, iI_sub, iI_mul, iI_neg, q_lt, q_le, q_eq, qz0, qz1, qz2, qz3, if_pos, if_neg, reduceIte, e0]
    · rw [e] at hk2
      have := congrArg Int32.toInt hk2
      rw [iI_toInt (by omega) (by omega), iI_toInt (by omega) (by omega)] at this
      omega
  · have e1 : gs_wr (tp_m N a t) (r + 1) 240 (iI (m : Int)) x = some (tp_m (gs_up N (r + 1) m x) a t) := by
      rw [q_wrn m rfl (by omega) (by decide), tp_ur _ r2]
    have e2 : tp_m (gs_up N (r + 1) m x) a t r 5 = iI (m : Int) := by
      rw [tp_mr r1, ma_row_ne _ _ _ _ _ (by omega)]
      exact e
    have e3 : ∀ v, gs_up (tp_m (gs_up N (r + 1) m x) a t) r 5 v = tp_m (gs_up (gs_up N (r + 1) m x) r 5 v) a t := fun v => tp_ur _ r1
    refine ⟨gs_up (gs_up N (r + 1) m x) r 5 (iI ((m : Int) + 1)), ?_, ⟨m + 1, by omega, gs_up_eq _ _ _ _⟩, fun y z h1 h2 => ?_, fun k hk hk2 => ?_⟩
    · unfold f_X2_put
      simp (disch := omega) only [qn0, qn1, qn2, qn3, qn4, qn5, qn6, qn7, qn8, qn9, qn10, qn11, qn12, qn13, qn14, qn15, qn16, qn17, qn18, qn24, qn30, qn31, qn32, qn33, qn36, qn38, qn40, qn41, qn42, qn43, qn45, qn47, qn48, qn49, qn50, qn51, qn52, qn53, qn57, qn58, qn59, qn60, qn61, qn62, qn63, qn91, qn93, qn97, qn99, qn100, qn103, qn104, qn112, qn113, qn115, qn116, qn118, qn119, qn121, qn124, qn173, qn177, qn240, qn255, qn295, qn352, qn353, qn533, qn999, qn1000, qn1023, qn6561, qn10000, qn20787, qn1000000, qn252645135, qn858993459, qn1000000000, qn1431655765, q_s1, q_s2, q_s3, q_s4, q_s5, iI_add, iI_sub, iI_mul, iI_neg, q_lt, q_le, q_eq, qz0, qz1, qz2, qz3, if_pos, if_neg, reduceIte, e0, e1, e2, e3]
    · rw [ma_cell_ne _ _ _ _ _ _ h1, ma_row_ne _ _ _ _ _ h2]
    · rw [e] at hk2
      have := congrArg Int32.toInt hk2
      rw [iI_toInt (by omega) (by omega), iI_toInt (by omega) (by omega)] at this
      have : m = k := by omega
      subst this
      rfl
theorem lr_g1 (pre : List Int) (c : Int) : (pre ++ [c]).getD pre.length 0 = c := by
  rw [List.getD_eq_getElem?_getD, List.getElem?_append_right (Nat.le_refl _), Nat.sub_self]
  rfl
theorem lr_g2 (pre d : List Int) {j : Nat} (h : j < pre.length) : (pre ++ d).getD j 0 = pre.getD j 0 := by
  rw [List.getD_eq_getElem?_getD, List.getElem?_append_left h, ← List.getD_eq_getElem?_getD]
theorem c_lput (hr : lr_r r) (h : lr_K r pre N) (hl : pre.length < 240) (c : Int) : ∃ N', f_X2_put (tp_m N a t) r (iI c) = some (tp_m N' a t) ∧ lr_K r (pre ++ [c]) N' ∧ lr_X r N N' := by
  obtain ⟨N', e, -, hX, hN⟩ := c_lput0 (a := a) (t := t) hr (h.cnt (by omega)) (iI c)
  have e1 := hN pre.length hl h.1
  refine ⟨N', e, ⟨?_, fun j hj => ?_⟩, hX⟩
  · rw [e1, gs_up_eq, List.length_append]
    rfl
  · rw [List.length_append] at hj
    simp only [List.length_cons, List.length_nil] at hj
    rw [e1, ma_row_ne _ _ _ _ _ (by omega)]
    by_cases cj : j = pre.length
    · subst cj
      rw [gs_up_eq, lr_g1]
    · rw [ma_cell_ne _ _ _ _ _ _ (by omega), h.2 j (by omega), lr_g2 _ _ (by omega)]
/-- a class's reader F follows the pure reader A -/
def lr_cg (b : Nat → Int) (n r : Nat) (M : gs_M) (F : gs_M → Option (Int32 × gs_M)) (A : Nat → lr_R) : Prop := ∀ (a : Nat) (N : gs_M) (pre : List Int), a ≤ n → lr_X r M N → lr_K r pre N → pre.length ≤ a → ∃ N' a', lr_X r M N' ∧ (∀ e, A a = .inl e → lr_cnt r N' ∧ F (tp_m N a (-1)) = some (iI 0, tp_m N' a' e)) ∧ ∀ q, A a = .inr q → lr_K r (pre ++ q.2.1) N' ∧ F (tp_m N a (-1)) = some (iI 1, tp_m N' q.1 (-1))
end Law4
