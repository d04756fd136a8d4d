/-! what a run of calls has made: the state's row s, all else T, the laws' values V; how class and model hold it -/
/-- cells that no call keeps for a later one -/
def iv_scr (a b : Nat) : Bool := (a == 1 && (b == 2 || b == 3)) || (6 ≤ a && a ≤ 8) || (97 ≤ a && a ≤ 104) || a == 107 || a == 113 || a == 119 || a == 125 || a == 131 || a == 133 || (a == 134 && (b == 8 || b == 9)) || a == 139 || (a == 140 && (b == 8 || b == 9)) || (141 ≤ a && a ≤ 146) || (a == 147 && (b == 0 || b == 5 || (8 ≤ b && b ≤ 14) || b == 17 || b == 25 || b == 27)) || a == 151 || a == 153 || a == 155 || (a == 156 && 36 ≤ b) || (a == 157 && b == 4) || a == 159 || (165 ≤ a && a ≤ 168)
/-- of these the cells that the reckoning of a LAW and a call's beginning use -/
def iv_fin (a b : Nat) : Bool := a == 107 || a == 113 || a == 119 || a == 125 || a == 131 || (a == 147 && (b == 0 || b == 5 || (8 ≤ b && b ≤ 14) || b == 17)) || a == 151
theorem iv_fin_scr {a b : Nat} (h : iv_scr a b = false) : iv_fin a b = false := by
  simp only [iv_scr, iv_fin, Bool.or_eq_false_iff, Bool.and_eq_false_iff, beq_eq_false_iff_ne, decide_eq_false_iff_not] at *
  omega
def iv_ag (M M1 : gs_M) : Prop := ∀ a b, iv_fin a b = false → M1 a b = M a b
theorem iv_ag.rf {M : gs_M} : iv_ag M M := fun _ _ _ => rfl
theorem iv_ag.tr {M M1 M2 : gs_M} (h : iv_ag M M1) (h2 : iv_ag M1 M2) : iv_ag M M2 := fun a b e => (h2 a b e).trans (h a b e)
theorem iv_ag.up {M M1 : gs_M} (h : iv_ag M M1) {i k : Nat} (v : Int32) (hs : iv_fin i k = true) : iv_ag M (gs_up M1 i k v) := by
  intro a b e
  rw [gs_up_at]
  by_cases hc : a = i ∧ b = k
  · obtain ⟨rfl, rfl⟩ := hc
    rw [hs] at e
    cases e
  · rw [if_neg hc]
    exact h a b e
theorem iv_ag.row {M M1 : gs_M} (h : iv_ag M M1) {i : Nat} (f : Nat → Int32) (hs : ∀ b, iv_fin i b = true) : iv_ag M (gs_row M1 i f) := by
  intro a b e
  rw [gs_row_at]
  by_cases hc : a = i
  · subst hc
    rw [hs b] at e
    cases e
  · rw [if_neg hc]
    exact h a b e
/-- a whole row without scratch -/
theorem iv_ag.at {M M1 : gs_M} (h : iv_ag M M1) (i : Nat) (hs : ∀ b, iv_scr i b = false) : M1 i = M i := funext fun b => h i b (iv_fin_scr (hs b))
theorem iv_scr_act {x : Nat} (hx : x < 40) (b : Nat) : iv_scr (16 + 2 * x) b = false := by
  simp only [iv_scr, Bool.or_eq_false_iff, Bool.and_eq_false_iff, beq_eq_false_iff_ne, decide_eq_false_iff_not]
  omega
theorem iv_scr_law {k : Nat} (hk : k < 4) {r : Nat} (h1 : 108 + 6 * k ≤ r) (h2 : r < 113 + 6 * k) (b : Nat) : iv_scr r b = false := by
  simp only [iv_scr, Bool.or_eq_false_iff, Bool.and_eq_false_iff, beq_eq_false_iff_ne, decide_eq_false_iff_not]
  omega
theorem iv_scr_156 {b : Nat} (hb : b < 36) : iv_scr 156 b = false := by
  simp only [iv_scr, Bool.or_eq_false_iff, Bool.and_eq_false_iff, beq_eq_false_iff_ne, decide_eq_false_iff_not]
  omega
theorem iv_scr_157 {b : Nat} (hb : b < 4) : iv_scr 157 b = false := by
  simp only [iv_scr, Bool.or_eq_false_iff, Bool.and_eq_false_iff, beq_eq_false_iff_ne, decide_eq_false_iff_not]
  omega
theorem ma_row_ne (M : gs_M) (i k : Nat) (v : Int32) (a : Nat) (h : a ≠ i) : gs_up M i k v a = M a := by
  funext b
  rw [gs_up_at, if_neg (fun z => h z.1)]
theorem ma_cell_ne (M : gs_M) (i k : Nat) (v : Int32) (a b : Nat) (h : ¬ (a = i ∧ b = k)) : gs_up M i k v a b = M a b := by
  rw [gs_up_at, if_neg h]
theorem ma_rowr_ne (M : gs_M) (i : Nat) (f : Nat → Int32) (a : Nat) (h : a ≠ i) : gs_row M i f a = M a := by
  unfold gs_row
  rw [if_neg h]
theorem ma_rowr_eq (M : gs_M) (i : Nat) (f : Nat → Int32) : gs_row M i f i = f := by
  unfold gs_row
  rw [if_pos rfl]
/-! the state's row: people's six cells, NIGHT 48, RIGHT 49, WRONG 50, THE BOOK's length 51 and pages of 5 from 52 on, the LOG's length 352 and rows of 3 from 353 on -/
def ma_bk (s : Nat → Int) (i : Nat) : Int := s (52 + 5 * i) + 1024 * s (53 + 5 * i) + 16384 * s (54 + 5 * i) + 131072 * s (55 + 5 * i) + 262144 * s (56 + 5 * i)
def ma_lg (s : Nat → Int) (i : Nat) : Int := s (353 + 3 * i) + 8 * s (354 + 3 * i) + 16 * (s (355 + 3 * i) + 1000)
def ma_one (s : Nat → Int) (p : Nat) : Prop := 0 ≤ s (6 * p) ∧ s (6 * p) ≤ 9 ∧ 0 ≤ s (6 * p + 1) ∧ s (6 * p + 1) ≤ 9 ∧ 0 ≤ s (6 * p + 2) ∧ s (6 * p + 2) ≤ 9 ∧ 0 ≤ s (6 * p + 3) ∧ s (6 * p + 3) ≤ 1 ∧ 0 ≤ s (6 * p + 4) ∧ s (6 * p + 4) ≤ 1 ∧ 0 ≤ s (6 * p + 5) ∧ s (6 * p + 5) ≤ 1
def ma_pg (s : Nat → Int) (i : Nat) : Prop := 0 ≤ s (52 + 5 * i) ∧ s (52 + 5 * i) ≤ 999 ∧ 0 ≤ s (53 + 5 * i) ∧ s (53 + 5 * i) ≤ 8 ∧ 0 ≤ s (54 + 5 * i) ∧ s (54 + 5 * i) ≤ 7 ∧ 0 ≤ s (55 + 5 * i) ∧ s (55 + 5 * i) ≤ 1 ∧ 0 ≤ s (56 + 5 * i) ∧ s (56 + 5 * i) ≤ 9
def ma_lr (s : Nat → Int) (i : Nat) : Prop := 0 ≤ s (353 + 3 * i) ∧ s (353 + 3 * i) ≤ 7 ∧ 0 ≤ s (354 + 3 * i) ∧ s (354 + 3 * i) ≤ 1 ∧ -540 ≤ s (355 + 3 * i) ∧ s (355 + 3 * i) ≤ 540
def ma_ws (s : Nat → Int) : Prop := (∀ p : Nat, p < 8 → ma_one s p) ∧ (0 ≤ s 48 ∧ s 48 ≤ 999) ∧ (0 ≤ s 51 ∧ s 51 ≤ 60) ∧ (0 ≤ s 352 ∧ s 352 ≤ 60) ∧ (∀ i : Nat, (i : Int) < s 51 → ma_pg s i) ∧ (∀ i : Nat, (i : Int) < s 352 → ma_lr s i)
def ma_sC (s : Nat → Int) (c : Nat → Int32) : Prop := (∀ k : Nat, k < 51 → c k = iI (s k)) ∧ c 51 = iI (s 51) ∧ c 52 = iI (s 352) ∧ (∀ i : Nat, (i : Int) < s 51 → c (53 + i) = iI (ma_bk s i)) ∧ (∀ i : Nat, (i : Int) < s 352 → c (113 + i) = iI (ma_lg s i))
def ma_sM (s : Nat → Int) (n : Nat → Int32) : Prop := ∀ k : Nat, k < 533 → n k = iI (s k)
/-! the rest: T 1 rules, T 2 what is told, T 3 numbers (0 people, 1 CRIMES, 2 the LAW that holds, 3 the WATCH that holds, 4 LAWS, 5 WATCHES, 6 LAMPS, 7 the TAPE's length, 8 an IMAGE is kept, 9 ACTS), T 4 the TAPE, T 5 WATCHES, T 6 LAMPS, T 7 the IMAGE, T (10 + t) ACTS -/
def ma_wT (T : Nat → Nat → Int) : Prop :=
  (0 ≤ T 3 0 ∧ T 3 0 ≤ 8) ∧ (0 ≤ T 1 0 ∧ T 1 0 ≤ 9 ∧ (T 3 0 = 0 → T 1 0 = 0) ∧ (0 < T 3 0 → 1 ≤ T 1 0)) ∧ (0 ≤ T 1 1 ∧ T 1 1 ≤ 30) ∧ (0 ≤ T 1 2 ∧ T 1 2 ≤ 9) ∧
  (∀ p : Nat, (p : Int) < T 3 0 → 0 ≤ T 2 (5 * p + 1) ∧ T 2 (5 * p + 1) ≤ 9 ∧ (T 2 (5 * p + 4) = 8 ∨ (0 ≤ T 2 (5 * p + 4) ∧ T 2 (5 * p + 4) < T 3 0))) ∧
  (0 ≤ T 3 1 ∧ T 3 1 ≤ 9) ∧ (-1 ≤ T 3 2 ∧ T 3 2 < T 3 4) ∧ (0 ≤ T 3 4 ∧ T 3 4 ≤ 4) ∧ (-1 ≤ T 3 3 ∧ T 3 3 < T 3 5) ∧ (0 ≤ T 3 5 ∧ T 3 5 ≤ 4) ∧ (0 ≤ T 3 6 ∧ T 3 6 ≤ 12) ∧ (0 ≤ T 3 7 ∧ T 3 7 ≤ 240) ∧ (0 ≤ T 3 8 ∧ T 3 8 ≤ 1) ∧ (0 ≤ T 3 9 ∧ T 3 9 ≤ 40) ∧
  (∀ i : Nat, (i : Int) < T 3 7 → 1 ≤ T 4 i ∧ T 4 i ≤ 255) ∧
  (∀ w h : Nat, (w : Int) < T 3 5 → h < 9 → -1 ≤ T 5 (9 * w + h) ∧ T 5 (9 * w + h) ≤ 8) ∧
  (∀ i : Nat, (i : Int) < T 3 6 → 0 ≤ T 6 (3 * i) ∧ T 6 (3 * i) < T 3 0 ∧ 0 ≤ T 6 (3 * i + 1) ∧ T 6 (3 * i + 1) < T 1 0 ∧ 0 ≤ T 6 (3 * i + 2) ∧ T 6 (3 * i + 2) ≤ 1) ∧
  (T 3 8 = 1 → ma_ws (T 7)) ∧ (∀ t : Nat, (t : Int) < T 3 9 → ma_ws (T (10 + t)))
/-- the value of a LAW: which, y or v, the six letters g c w t h a -/
def ma_V : Type := Nat → Int → Int → Int → Int → Int → Int → Int → Int
def ma_in (g c w t h a : Int) : Prop := (0 ≤ g ∧ g ≤ 9) ∧ (0 ≤ c ∧ c ≤ 9) ∧ (0 ≤ w ∧ w ≤ 9) ∧ (0 ≤ t ∧ t ≤ 9) ∧ (0 ≤ h ∧ h ≤ 9) ∧ (0 ≤ a ∧ a ≤ 1)
def ma_wV (T : Nat → Nat → Int) (V : ma_V) : Prop := ∀ (k : Nat) (kd g c w t h a : Int), (k : Int) < T 3 4 → (kd = 121 ∨ kd = 118) → ma_in g c w t h a → -1000000 ≤ V k kd g c w t h a ∧ V k kd g c w t h a ≤ 1000000
def ma_lC (V : ma_V) (k : Nat) (M : gs_M) : Prop := ∀ (kd g c w t h a : Int), (kd = 121 ∨ kd = 118) → ma_in g c w t h a → ∀ M1 : gs_M, (∀ r, 108 + 6 * k ≤ r → r < 113 + 6 * k → M1 r = M r) → M1 107 0 = iI g → M1 107 1 = iI c → M1 107 2 = iI w → M1 107 3 = iI t → M1 107 4 = iI h → M1 107 5 = iI a → ∃ M2, f_X2_worth M1 (108 + 6 * k) (iI kd) = some (iI (V k kd g c w t h a), M2) ∧ iv_ag M1 M2
def ma_lM (V : ma_V) (k : Nat) (M : gs_M) : Prop := ∀ (kd g c w t h a : Int), (kd = 121 ∨ kd = 118) → ma_in g c w t h a → ∀ M1 : gs_M, (∀ i, 240 * k ≤ i → i < 240 * k + 240 → M1 149 i = M 149 i) → M1 151 103 = iI g → M1 151 99 = iI c → M1 151 119 = iI w → M1 151 116 = iI t → M1 151 104 = iI h → M1 151 97 = iI a → ∃ M2, f_X12_goThrough M1 (iI (240 * k)) (M 150 k) (iI kd) = some M2 ∧ M2 147 14 = iI (V k kd g c w t h a) ∧ iv_ag M1 M2
/-- the class holds s, T, V -/
def ma_C (s : Nat → Int) (T : Nat → Nat → Int) (V : ma_V) (M : gs_M) : Prop :=
  M 3 2 = iI (T 3 0) ∧ (∀ k : Nat, k < 3 → M 4 k = iI (T 1 k)) ∧ (∀ k : Nat, (k : Int) < 5 * T 3 0 → M 5 k = iI (T 2 k)) ∧
  M 0 15 = iI (T 3 1) ∧ M 105 5 = iI (T 3 2) ∧ M 95 3 = iI (T 3 3) ∧ M 105 4 = iI (T 3 4) ∧ M 95 2 = iI (T 3 5) ∧ M 134 7 = iI (T 3 6) ∧ M 1 1 = iI (T 3 7) ∧ M 0 14 = iI (T 3 8) ∧ M 13 2 = iI (T 3 9) ∧
  (∀ i : Nat, (i : Int) < T 3 7 → M 2 i = iI (T 4 i)) ∧
  (∀ w h : Nat, (w : Int) < T 3 5 → h < 9 → M 96 (9 * w + h) = iI (T 5 (9 * w + h))) ∧
  (∀ i : Nat, (i : Int) < T 3 6 → M 135 i = iI (T 6 (3 * i)) ∧ M 136 i = iI (T 6 (3 * i + 1)) ∧ M 137 i = iI (T 6 (3 * i + 2))) ∧
  (T 3 8 = 1 → ma_sC (T 7) (M 12)) ∧
  (∃ nx : Nat, nx < 40 ∧ M 13 1 = iI nx ∧ ∀ t : Nat, (t : Int) < T 3 9 → ma_sC (T (10 + t)) (M (16 + 2 * ((nx + 40 - (T 3 9).toNat + t) % 40)))) ∧
  (∀ k : Nat, (k : Int) < T 3 4 → ma_lC V k M) ∧ ma_sC s (M 10)
/-- the model holds s, T, V -/
def ma_M (s : Nat → Int) (T : Nat → Nat → Int) (V : ma_V) (M : gs_M) : Prop :=
  M 147 24 = iI (T 3 0) ∧ (∀ k : Nat, k < 3 → M 152 k = iI (T 1 k)) ∧ (∀ k : Nat, (k : Int) < 5 * T 3 0 → M 154 k = iI (T 2 k)) ∧
  M 147 31 = iI (T 3 1) ∧ M 147 29 = iI (T 3 2) ∧ M 147 30 = iI (T 3 3) ∧ M 147 7 = iI (T 3 4) ∧ M 147 26 = iI (T 3 5) ∧ M 147 40 = iI (T 3 6) ∧ M 147 6 = iI (T 3 7) ∧ M 147 46 = iI (T 3 8) ∧ M 147 35 = iI (T 3 9) ∧
  (∀ i : Nat, (i : Int) < T 3 7 → M 148 i = (iI (T 4 i)).toInt8.toInt32) ∧
  (∀ w : Nat, (w : Int) < T 3 5 → ∃ n : Nat, n ≤ 9 ∧ M 157 w = iI n ∧ ∀ h : Nat, h < 9 → (h < n → ∃ x : Int, 0 ≤ x ∧ x ≤ 9 ∧ M 156 (9 * w + h) = iI x ∧ T 5 (9 * w + h) = if x = 9 then -1 else x) ∧ (n ≤ h → T 5 (9 * w + h) = -1)) ∧
  (∀ i : Nat, (i : Int) < T 3 6 → M 162 i = iI (T 6 (3 * i)) ∧ M 163 i = iI (T 6 (3 * i + 1)) ∧ M 164 i = iI (T 6 (3 * i + 2))) ∧
  (T 3 8 = 1 → ma_sM (T 7) (M 169)) ∧
  (∀ t : Nat, (t : Int) < T 3 9 → ma_sM (T (10 + t)) (fun k => M 160 (533 * t + k))) ∧
  (∀ k : Nat, (k : Int) < T 3 4 → ma_lM V k M) ∧ ma_sM s (M 158)
def ma_W (s : Nat → Int) (T : Nat → Nat → Int) (V : ma_V) : Prop := ma_ws s ∧ ma_wT T ∧ ma_wV T V
def ma_Inv (M : gs_M) (_ : gs_L) : Prop := ∃ (s : Nat → Int) (T : Nat → Nat → Int) (V : ma_V), ma_W s T V ∧ ma_C s T V M ∧ ma_M s T V M
theorem ma_C.ag {s : Nat → Int} {T : Nat → Nat → Int} {V : ma_V} {M M1 : gs_M} (w : ma_wT T) (h : ma_C s T V M) (g : iv_ag M M1) : ma_C s T V M1 := by
  obtain ⟨h1, h2, h3, h4, h5, h6, h7, h8, h9, h10, h11, h12, h13, h14, h15, h16, ⟨nx, h17, h18, h19⟩, h20, h21⟩ := h
  obtain ⟨-, -, -, -, -, -, -, w8, -⟩ := w
  refine ⟨?_, ?_, ?_, ?_, ?_, ?_, ?_, ?_, ?_, ?_, ?_, ?_, ?_, ?_, ?_, ?_, ⟨nx, h17, ?_, ?_⟩, ?_, ?_⟩
  · rw [g.at 3 (fun _ => rfl)]; exact h1
  · rw [g.at 4 (fun _ => rfl)]; exact h2
  · rw [g.at 5 (fun _ => rfl)]; exact h3
  · rw [g.at 0 (fun _ => rfl)]; exact h4
  · rw [g.at 105 (fun _ => rfl)]; exact h5
  · rw [g.at 95 (fun _ => rfl)]; exact h6
  · rw [g.at 105 (fun _ => rfl)]; exact h7
  · rw [g.at 95 (fun _ => rfl)]; exact h8
  · rw [g 134 7 rfl]; exact h9
  · rw [g 1 1 rfl]; exact h10
  · rw [g.at 0 (fun _ => rfl)]; exact h11
  · rw [g.at 13 (fun _ => rfl)]; exact h12
  · rw [g.at 2 (fun _ => rfl)]; exact h13
  · rw [g.at 96 (fun _ => rfl)]; exact h14
  · rw [g.at 135 (fun _ => rfl), g.at 136 (fun _ => rfl), g.at 137 (fun _ => rfl)]; exact h15
  · rw [g.at 12 (fun _ => rfl)]; exact h16
  · rw [g.at 13 (fun _ => rfl)]; exact h18
  · intro t ht
    rw [g.at _ (iv_scr_act (Nat.mod_lt _ (by decide)))]
    exact h19 t ht
  · intro k hk kd g0 c0 w0 t0 h0 a0 e1 e2 M2 e3
    refine h20 k hk kd g0 c0 w0 t0 h0 a0 e1 e2 M2 (fun r r1 r2 => ?_)
    rw [e3 r r1 r2]
    exact g.at r (iv_scr_law (by omega) r1 r2)
  · rw [g.at 10 (fun _ => rfl)]; exact h21
theorem ma_M.ag {s : Nat → Int} {T : Nat → Nat → Int} {V : ma_V} {M M1 : gs_M} (w : ma_wT T) (h : ma_M s T V M) (g : iv_ag M M1) : ma_M s T V M1 := by
  obtain ⟨h1, h2, h3, h4, h5, h6, h7, h8, h9, h10, h11, h12, h13, h14, h15, h16, h17, h18, h19⟩ := h
  obtain ⟨-, -, -, -, -, -, -, w8, -, w10, -⟩ := w
  refine ⟨?_, ?_, ?_, ?_, ?_, ?_, ?_, ?_, ?_, ?_, ?_, ?_, ?_, ?_, ?_, ?_, ?_, ?_, ?_⟩
  · rw [g 147 24 rfl]; exact h1
  · rw [g.at 152 (fun _ => rfl)]; exact h2
  · rw [g.at 154 (fun _ => rfl)]; exact h3
  · rw [g 147 31 rfl]; exact h4
  · rw [g 147 29 rfl]; exact h5
  · rw [g 147 30 rfl]; exact h6
  · rw [g 147 7 rfl]; exact h7
  · rw [g 147 26 rfl]; exact h8
  · rw [g 147 40 rfl]; exact h9
  · rw [g 147 6 rfl]; exact h10
  · rw [g 147 46 rfl]; exact h11
  · rw [g 147 35 rfl]; exact h12
  · rw [g.at 148 (fun _ => rfl)]; exact h13
  · intro w hw
    obtain ⟨n, g1, g2, g3⟩ := h14 w hw
    refine ⟨n, g1, by rw [g 157 w rfl]; exact g2, fun q hq => ?_⟩
    rw [g 156 (9 * w + q) rfl]
    exact g3 q hq
  · rw [g.at 162 (fun _ => rfl), g.at 163 (fun _ => rfl), g.at 164 (fun _ => rfl)]; exact h15
  · rw [g.at 169 (fun _ => rfl)]; exact h16
  · rw [g.at 160 (fun _ => rfl)]; exact h17
  · intro k hk kd g0 c0 w0 t0 h0 a0 e1 e2 M2 e3
    rw [g 150 k rfl]
    refine h18 k hk kd g0 c0 w0 t0 h0 a0 e1 e2 M2 (fun i i1 i2 => ?_)
    rw [e3 i i1 i2]
    exact g 149 i rfl
  · rw [g.at 158 (fun _ => rfl)]; exact h19
theorem ma_Inv.ag {M M1 : gs_M} {L L1 : gs_L} (h : ma_Inv M L) (g : iv_ag M M1) : ma_Inv M1 L1 := by
  obtain ⟨s, T, V, w, c, m⟩ := h
  exact ⟨s, T, V, w, c.ag w.2.1 g, m.ag w.2.1 g⟩
theorem ma_Inv0 : ma_Inv gs_M0 gs_L0 := by
  refine ⟨fun _ => 0, fun a b => if a = 3 ∧ (b = 2 ∨ b = 3) then -1 else 0, fun _ _ _ _ _ _ _ _ => 0, ⟨?_, ?_, ?_⟩, ?_, ?_⟩
  · refine ⟨fun p _ => ?_, ?_, ?_, ?_, fun i hi => ?_, fun i hi => ?_⟩
    · unfold ma_one; simp
    · simp
    · simp
    · simp
    · simp at hi; omega
    · simp at hi; omega
  · refine ⟨?_, ?_, ?_, ?_, fun p hp => ?_, ?_, ?_, ?_, ?_, ?_, ?_, ?_, ?_, ?_, fun p hp => ?_, fun w p hp => ?_, fun p hp => ?_, fun z => ?_, fun p hp => ?_⟩ <;> simp at * <;> omega
  · intro k kd g c w t h a hk
    simp at hk
    omega
  · refine ⟨rfl, fun k hk => rfl, fun k hk => ?_, rfl, rfl, rfl, rfl, rfl, rfl, rfl, rfl, rfl, fun k hk => ?_, fun w k hk => ?_, fun k hk => ?_, fun z => ?_, ⟨0, by decide, rfl, fun k hk => ?_⟩, fun k hk => ?_, ⟨fun _ _ => rfl, rfl, rfl, fun k hk => ?_, fun k hk => ?_⟩⟩ <;> simp at * <;> omega
  · refine ⟨rfl, fun k hk => rfl, fun k hk => ?_, rfl, rfl, rfl, rfl, rfl, rfl, rfl, rfl, rfl, fun k hk => ?_, fun w hk => ?_, fun k hk => ?_, fun z => ?_, fun k hk => ?_, fun k hk => ?_, fun _ _ => rfl⟩ <;> simp at * <;> omega
