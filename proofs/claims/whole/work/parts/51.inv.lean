/-! the invariant, piece by piece: class cells against model cells -/
/-- a packed row of THE BOOK, a packed row of the LOG -/
def iv_bk (t h p l d : Nat) : Int32 := nI (t + h * 1024 + p * 16384 + l * 131072 + d * 262144)
def iv_lg (p g : Nat) (z : Int) : Int32 := iI (p + g * 8 + (z + 1000) * 16)
def iv_book (c n : Nat → Int32) (i : Nat) : Prop := ∃ t h p l d : Nat, t ≤ 999 ∧ h < 9 ∧ p < 8 ∧ l < 2 ∧ d ≤ 9 ∧ c (53 + i) = iv_bk t h p l d ∧ n (52 + 5 * i) = nI t ∧ n (52 + 5 * i + 1) = nI h ∧ n (52 + 5 * i + 2) = nI p ∧ n (52 + 5 * i + 3) = nI l ∧ n (52 + 5 * i + 4) = nI d
def iv_log (c n : Nat → Int32) (i : Nat) : Prop := ∃ (p g : Nat) (z : Int), p < 8 ∧ g < 2 ∧ -540 ≤ z ∧ z ≤ 540 ∧ c (113 + i) = iv_lg p g z ∧ n (353 + 3 * i) = nI p ∧ n (353 + 3 * i + 1) = nI g ∧ n (353 + 3 * i + 2) = iI z
def iv_one (n : Nat → Int32) (p : Nat) : Prop := (∃ x : Nat, x ≤ 9 ∧ n (6 * p) = nI x) ∧ (∃ x : Nat, x ≤ 9 ∧ n (6 * p + 1) = nI x) ∧ (∃ x : Nat, x ≤ 9 ∧ n (6 * p + 2) = nI x) ∧ (∃ x : Nat, x ≤ 1 ∧ n (6 * p + 3) = nI x) ∧ (∃ x : Nat, x ≤ 1 ∧ n (6 * p + 4) = nI x) ∧ (∃ x : Nat, x ≤ 1 ∧ n (6 * p + 5) = nI x)
/-- a row of the state: the class's 173 cells, the model's 533 -/
def iv_row (c n : Nat → Int32) : Prop := (∀ k, k < 51 → c k = n k) ∧ (∀ p, p < 8 → iv_one n p) ∧ (∃ t : Nat, t ≤ 999 ∧ n 48 = nI t) ∧
  (∃ nb : Nat, nb ≤ 60 ∧ c 51 = nI nb ∧ n 51 = nI nb ∧ ∀ i, i < nb → iv_book c n i) ∧ (∃ nl : Nat, nl ≤ 60 ∧ c 52 = nI nl ∧ n 352 = nI nl ∧ ∀ i, i < nl → iv_log c n i)
def iv_acts (M : gs_M) : Prop := ∃ nx ma : Nat, nx < 40 ∧ ma ≤ 40 ∧ M 13 1 = nI nx ∧ M 13 2 = nI ma ∧ M 147 35 = nI ma ∧ ∀ t, t < ma → iv_row (M (16 + 2 * ((nx + 40 - ma + t) % 40))) (fun k => M 160 (533 * t + k))
def iv_image (M : gs_M) : Prop := (M 0 14 = 0 ∧ M 147 46 = 0) ∨ (M 0 14 = 1 ∧ M 147 46 = 1 ∧ iv_row (M 12) (M 169))
def iv_town (M : gs_M) : Prop := (∀ k, k < 3 → M 4 k = M 152 k) ∧ (∀ k, k < 40 → M 5 k = M 154 k) ∧ ∃ fo : Nat, fo ≤ 8 ∧ M 3 2 = nI fo ∧ M 147 24 = nI fo ∧ ((fo = 0 ∧ M 4 0 = 0) ∨ (0 < fo ∧ (∃ x : Nat, 1 ≤ x ∧ x ≤ 9 ∧ M 4 0 = nI x) ∧ (∃ x : Nat, 1 ≤ x ∧ x ≤ 30 ∧ M 4 1 = nI x) ∧ (∃ x : Nat, x ≤ 9 ∧ M 4 2 = nI x) ∧ ∀ p, p < fo → (∃ x : Nat, x ≤ 9 ∧ M 5 (5 * p + 1) = nI x) ∧ ∃ x : Nat, (x = 8 ∨ x < fo) ∧ M 5 (5 * p + 4) = nI x))
def iv_watches (M : gs_M) : Prop := ∃ (wm : Nat) (wh : Int), wm ≤ 4 ∧ -1 ≤ wh ∧ wh < wm ∧ M 95 2 = nI wm ∧ M 147 26 = nI wm ∧ M 95 3 = iI wh ∧ M 147 30 = iI wh ∧ ∀ w, w < wm → ∃ n : Nat, n ≤ 9 ∧ M 157 w = nI n ∧ ∀ h, h < 9 → (h < n → ∃ x : Nat, x ≤ 9 ∧ M 156 (9 * w + h) = nI x ∧ M 96 (9 * w + h) = if x = 9 then -1 else nI x) ∧ (n ≤ h → M 96 (9 * w + h) = -1)
def iv_lamps (M : gs_M) : Prop := ∃ la fo hr : Nat, la ≤ 12 ∧ fo ≤ 8 ∧ hr ≤ 9 ∧ M 3 2 = nI fo ∧ M 4 0 = nI hr ∧ M 134 7 = nI la ∧ M 147 40 = nI la ∧ ∀ i, i < la → (∃ p : Nat, p < fo ∧ M 135 i = nI p ∧ M 162 i = nI p) ∧ (∃ h : Nat, h < hr ∧ M 136 i = nI h ∧ M 163 i = nI h) ∧ ∃ x : Nat, x ≤ 1 ∧ M 137 i = nI x ∧ M 164 i = nI x
def iv_crimes (M : gs_M) : Prop := ∃ x : Nat, x ≤ 9 ∧ M 0 15 = nI x ∧ M 147 31 = nI x
def iv_tape (M : gs_M) : Prop := ∃ n : Nat, n ≤ 240 ∧ M 1 1 = nI n ∧ M 147 6 = nI n ∧ ∀ i, i < n → ∃ v : Nat, 1 ≤ v ∧ v ≤ 255 ∧ M 2 i = nI v ∧ M 148 i = (nI v).toInt8.toInt32
/-- cells that no call keeps for a later one -/
def iv_scr (a b : Nat) : Bool := (a == 1 && (b == 2 || b == 3)) || (6 ≤ a && a ≤ 8) || (97 ≤ a && a ≤ 104) || a == 107 || a == 113 || a == 119 || a == 125 || a == 131 || a == 133 || (a == 134 && (b == 8 || b == 9)) || a == 139 || (a == 140 && (b == 8 || b == 9)) || (141 ≤ a && a ≤ 146) || (a == 147 && (b == 0 || b == 5 || (8 ≤ b && b ≤ 14) || b == 17 || b == 25 || b == 27)) || a == 151 || a == 153 || a == 155 || (a == 156 && 36 ≤ b) || (a == 157 && b == 4) || a == 159 || (165 ≤ a && a ≤ 168)
def iv_ag (M M1 : gs_M) : Prop := ∀ a b, iv_scr a b = false → M1 a b = M a b
theorem iv_ag.rf {M : gs_M} : iv_ag M M := fun _ _ _ => rfl
theorem iv_ag.tr {M M1 M2 : gs_M} (h : iv_ag M M1) (h2 : iv_ag M1 M2) : iv_ag M M2 := fun a b e => (h2 a b e).trans (h a b e)
theorem iv_ag.up {M M1 : gs_M} (h : iv_ag M M1) {i k : Nat} (v : Int32) (hs : iv_scr i k = true) : iv_ag M (gs_up M1 i k v) := by
  intro a b e
  rw [gs_up_at]
  by_cases hc : a = i ∧ b = k
  · obtain ⟨rfl, rfl⟩ := hc
    rw [hs] at e
    cases e
  · rw [if_neg hc]
    exact h a b e
theorem iv_ag.row {M M1 : gs_M} (h : iv_ag M M1) {i : Nat} (f : Nat → Int32) (hs : ∀ b, iv_scr i b = true) : iv_ag M (gs_row M1 i f) := by
  intro a b e
  rw [gs_row_at]
  by_cases hc : a = i
  · subst hc
    rw [hs b] at e
    cases e
  · rw [if_neg hc]
    exact h a b e
/-- a whole row without scratch -/
theorem iv_ag.at {M M1 : gs_M} (h : iv_ag M M1) (i : Nat) (hs : ∀ b, iv_scr i b = false) : M1 i = M i := funext fun b => h i b (hs b)
theorem iv_row0 : iv_row (fun _ => 0) (fun _ => 0) := by
  refine ⟨fun _ _ => rfl, fun p _ => ⟨⟨0, by decide, rfl⟩, ⟨0, by decide, rfl⟩, ⟨0, by decide, rfl⟩, ⟨0, by decide, rfl⟩, ⟨0, by decide, rfl⟩, ⟨0, by decide, rfl⟩⟩, ⟨0, by decide, rfl⟩, ⟨0, by decide, rfl, rfl, fun i h => absurd h (Nat.not_lt_zero i)⟩, ⟨0, by decide, rfl, rfl, fun i h => absurd h (Nat.not_lt_zero i)⟩⟩
theorem iv_acts0 : iv_acts gs_M0 := ⟨0, 0, by decide, by decide, rfl, rfl, rfl, fun t h => absurd h (Nat.not_lt_zero t)⟩
theorem iv_image0 : iv_image gs_M0 := Or.inl ⟨rfl, rfl⟩
theorem iv_town0 : iv_town gs_M0 := ⟨fun _ _ => rfl, fun _ _ => rfl, 0, by decide, rfl, rfl, Or.inl ⟨rfl, rfl⟩⟩
theorem iv_watches0 : iv_watches gs_M0 := ⟨0, -1, by decide, by decide, by decide, rfl, rfl, by decide, by decide, fun w h => absurd h (Nat.not_lt_zero w)⟩
theorem iv_lamps0 : iv_lamps gs_M0 := ⟨0, 0, 0, by decide, by decide, by decide, rfl, rfl, rfl, rfl, fun i h => absurd h (Nat.not_lt_zero i)⟩
theorem iv_crimes0 : iv_crimes gs_M0 := ⟨0, by decide, rfl, rfl⟩
theorem iv_tape0 : iv_tape gs_M0 := ⟨0, by decide, rfl, rfl, fun i h => absurd h (Nat.not_lt_zero i)⟩
