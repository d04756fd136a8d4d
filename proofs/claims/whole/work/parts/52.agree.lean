/-! the invariant's pieces stay where scratch alone has changed -/
theorem iv_scr_act {x : Nat} (hx : x < 40) (b : Nat) : iv_scr (16 + 2 * x) b = false := by
  simp only [iv_scr, Bool.or_eq_false_iff, Bool.and_eq_false_iff, beq_eq_false_iff_ne, decide_eq_false_iff_not]
  omega
theorem iv_town.ag {M M1 : gs_M} (h : iv_ag M M1) (t : iv_town M) : iv_town M1 := by
  unfold iv_town at *
  rw [h.at 3 (fun _ => rfl), h.at 4 (fun _ => rfl), h.at 5 (fun _ => rfl), h.at 152 (fun _ => rfl), h.at 154 (fun _ => rfl), h 147 24 rfl]
  exact t
theorem iv_acts.ag {M M1 : gs_M} (h : iv_ag M M1) (t : iv_acts M) : iv_acts M1 := by
  obtain ⟨nx, ma, h1, h2, h3, h4, h5, h6⟩ := t
  refine ⟨nx, ma, h1, h2, by rw [h.at 13 (fun _ => rfl)]; exact h3, by rw [h.at 13 (fun _ => rfl)]; exact h4, by rw [h 147 35 rfl]; exact h5, fun t ht => ?_⟩
  rw [h.at _ (iv_scr_act (Nat.mod_lt _ (by decide))), h.at 160 (fun _ => rfl)]
  exact h6 t ht
theorem iv_image.ag {M M1 : gs_M} (h : iv_ag M M1) (t : iv_image M) : iv_image M1 := by
  unfold iv_image at *
  rw [h.at 0 (fun _ => rfl), h.at 12 (fun _ => rfl), h.at 169 (fun _ => rfl), h 147 46 rfl]
  exact t
theorem iv_scr_156 {b : Nat} (hb : b < 36) : iv_scr 156 b = false := by
  simp only [iv_scr, Bool.or_eq_false_iff, Bool.and_eq_false_iff, beq_eq_false_iff_ne, decide_eq_false_iff_not]
  omega
theorem iv_scr_157 {b : Nat} (hb : b < 4) : iv_scr 157 b = false := by
  simp only [iv_scr, Bool.or_eq_false_iff, Bool.and_eq_false_iff, beq_eq_false_iff_ne, decide_eq_false_iff_not]
  omega
theorem iv_watches.ag {M M1 : gs_M} (h : iv_ag M M1) (t : iv_watches M) : iv_watches M1 := by
  obtain ⟨wm, wh, h1, h2, h3, h4, h5, h6, h7, h8⟩ := t
  refine ⟨wm, wh, h1, h2, h3, by rw [h.at 95 (fun _ => rfl)]; exact h4, by rw [h 147 26 rfl]; exact h5, by rw [h.at 95 (fun _ => rfl)]; exact h6, by rw [h 147 30 rfl]; exact h7, fun w hw => ?_⟩
  obtain ⟨n, g1, g2, g3⟩ := h8 w hw
  refine ⟨n, g1, by rw [h 157 w (iv_scr_157 (by omega))]; exact g2, fun q hq => ?_⟩
  rw [h.at 96 (fun _ => rfl), h 156 (9 * w + q) (iv_scr_156 (by omega))]
  exact g3 q hq
theorem iv_lamps.ag {M M1 : gs_M} (h : iv_ag M M1) (t : iv_lamps M) : iv_lamps M1 := by
  unfold iv_lamps at *
  rw [h.at 3 (fun _ => rfl), h.at 4 (fun _ => rfl), h.at 135 (fun _ => rfl), h.at 136 (fun _ => rfl), h.at 137 (fun _ => rfl), h.at 162 (fun _ => rfl), h.at 163 (fun _ => rfl), h.at 164 (fun _ => rfl), h 134 7 rfl, h 147 40 rfl]
  exact t
theorem iv_crimes.ag {M M1 : gs_M} (h : iv_ag M M1) (t : iv_crimes M) : iv_crimes M1 := by
  unfold iv_crimes at *
  rw [h.at 0 (fun _ => rfl), h 147 31 rfl]
  exact t
theorem iv_tape.ag {M M1 : gs_M} (h : iv_ag M M1) (t : iv_tape M) : iv_tape M1 := by
  unfold iv_tape at *
  rw [h 1 1 rfl, h.at 2 (fun _ => rfl), h 147 6 rfl, h.at 148 (fun _ => rfl)]
  exact t
theorem iv_state.ag {M M1 : gs_M} (h : iv_ag M M1) (t : iv_row (M 10) (M 158)) : iv_row (M1 10) (M1 158) := by
  rw [h.at 10 (fun _ => rfl), h.at 158 (fun _ => rfl)]
  exact t
