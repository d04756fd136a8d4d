/-! ints by iI, longs by jI: arithmetic, comparisons, cells -/
def jI (z : Int) : Int64 := Int64.ofInt z
theorem qn0 : (0 : Int32) = iI 0 := by decide
theorem qn1 : (1 : Int32) = iI 1 := by decide
theorem qn2 : (2 : Int32) = iI 2 := by decide
theorem qn3 : (3 : Int32) = iI 3 := by decide
theorem qn4 : (4 : Int32) = iI 4 := by decide
theorem qn5 : (5 : Int32) = iI 5 := by decide
theorem qn6 : (6 : Int32) = iI 6 := by decide
theorem qn7 : (7 : Int32) = iI 7 := by decide
theorem qn8 : (8 : Int32) = iI 8 := by decide
theorem qn9 : (9 : Int32) = iI 9 := by decide
theorem qn10 : (10 : Int32) = iI 10 := by decide
theorem qn11 : (11 : Int32) = iI 11 := by decide
theorem qn12 : (12 : Int32) = iI 12 := by decide
theorem qn13 : (13 : Int32) = iI 13 := by decide
theorem qn14 : (14 : Int32) = iI 14 := by decide
theorem qn15 : (15 : Int32) = iI 15 := by decide
theorem qn16 : (16 : Int32) = iI 16 := by decide
theorem qn17 : (17 : Int32) = iI 17 := by decide
theorem qn18 : (18 : Int32) = iI 18 := by decide
theorem qn24 : (24 : Int32) = iI 24 := by decide
theorem qn30 : (30 : Int32) = iI 30 := by decide
theorem qn31 : (31 : Int32) = iI 31 := by decide
theorem qn32 : (32 : Int32) = iI 32 := by decide
theorem qn33 : (33 : Int32) = iI 33 := by decide
theorem qn36 : (36 : Int32) = iI 36 := by decide
theorem qn38 : (38 : Int32) = iI 38 := by decide
theorem qn40 : (40 : Int32) = iI 40 := by decide
theorem qn41 : (41 : Int32) = iI 41 := by decide
theorem qn42 : (42 : Int32) = iI 42 := by decide
theorem qn43 : (43 : Int32) = iI 43 := by decide
theorem qn45 : (45 : Int32) = iI 45 := by decide
theorem qn47 : (47 : Int32) = iI 47 := by decide
theorem qn48 : (48 : Int32) = iI 48 := by decide
theorem qn49 : (49 : Int32) = iI 49 := by decide
theorem qn50 : (50 : Int32) = iI 50 := by decide
theorem qn51 : (51 : Int32) = iI 51 := by decide
theorem qn52 : (52 : Int32) = iI 52 := by decide
theorem qn53 : (53 : Int32) = iI 53 := by decide
theorem qn57 : (57 : Int32) = iI 57 := by decide
theorem qn58 : (58 : Int32) = iI 58 := by decide
theorem qn59 : (59 : Int32) = iI 59 := by decide
theorem qn60 : (60 : Int32) = iI 60 := by decide
theorem qn61 : (61 : Int32) = iI 61 := by decide
theorem qn62 : (62 : Int32) = iI 62 := by decide
theorem qn63 : (63 : Int32) = iI 63 := by decide
theorem qn91 : (91 : Int32) = iI 91 := by decide
theorem qn93 : (93 : Int32) = iI 93 := by decide
theorem qn97 : (97 : Int32) = iI 97 := by decide
theorem qn99 : (99 : Int32) = iI 99 := by decide
theorem qn100 : (100 : Int32) = iI 100 := by decide
theorem qn103 : (103 : Int32) = iI 103 := by decide
theorem qn104 : (104 : Int32) = iI 104 := by decide
theorem qn112 : (112 : Int32) = iI 112 := by decide
theorem qn113 : (113 : Int32) = iI 113 := by decide
theorem qn115 : (115 : Int32) = iI 115 := by decide
theorem qn116 : (116 : Int32) = iI 116 := by decide
theorem qn118 : (118 : Int32) = iI 118 := by decide
theorem qn119 : (119 : Int32) = iI 119 := by decide
theorem qn121 : (121 : Int32) = iI 121 := by decide
theorem qn124 : (124 : Int32) = iI 124 := by decide
theorem qn173 : (173 : Int32) = iI 173 := by decide
theorem qn177 : (177 : Int32) = iI 177 := by decide
theorem qn240 : (240 : Int32) = iI 240 := by decide
theorem qn255 : (255 : Int32) = iI 255 := by decide
theorem qn295 : (295 : Int32) = iI 295 := by decide
theorem qn352 : (352 : Int32) = iI 352 := by decide
theorem qn353 : (353 : Int32) = iI 353 := by decide
theorem qn533 : (533 : Int32) = iI 533 := by decide
theorem qn999 : (999 : Int32) = iI 999 := by decide
theorem qn1000 : (1000 : Int32) = iI 1000 := by decide
theorem qn1023 : (1023 : Int32) = iI 1023 := by decide
theorem qn6561 : (6561 : Int32) = iI 6561 := by decide
theorem qn10000 : (10000 : Int32) = iI 10000 := by decide
theorem qn20787 : (20787 : Int32) = iI 20787 := by decide
theorem qn1000000 : (1000000 : Int32) = iI 1000000 := by decide
theorem qn252645135 : (252645135 : Int32) = iI 252645135 := by decide
theorem qn858993459 : (858993459 : Int32) = iI 858993459 := by decide
theorem qn1000000000 : (1000000000 : Int32) = iI 1000000000 := by decide
theorem qn1431655765 : (1431655765 : Int32) = iI 1431655765 := by decide
theorem qj0 : (0 : Int64) = jI 0 := by decide
theorem qj1 : (1 : Int64) = jI 1 := by decide
theorem qj2 : (2 : Int64) = jI 2 := by decide
theorem qj4 : (4 : Int64) = jI 4 := by decide
theorem qj7 : (7 : Int64) = jI 7 := by decide
theorem qj8 : (8 : Int64) = jI 8 := by decide
theorem qj9 : (9 : Int64) = jI 9 := by decide
theorem qj10 : (10 : Int64) = jI 10 := by decide
theorem qj30 : (30 : Int64) = jI 30 := by decide
theorem qj100 : (100 : Int64) = jI 100 := by decide
theorem qj1000 : (1000 : Int64) = jI 1000 := by decide
theorem qj1000000 : (1000000 : Int64) = jI 1000000 := by decide
theorem qj1000000000 : (1000000000 : Int64) = jI 1000000000 := by decide
theorem qj1442695040888963407 : (1442695040888963407 : Int64) = jI 1442695040888963407 := by decide
theorem qj6364136223846793005 : (6364136223846793005 : Int64) = jI 6364136223846793005 := by decide
theorem q_lt {a b : Int} (h : -2147483648 ≤ a ∧ a < 2147483648 ∧ -2147483648 ≤ b ∧ b < 2147483648) : (iI a < iI b) = (a < b) := propext (iI_lt h.1 h.2.1 h.2.2.1 h.2.2.2)
theorem q_le {a b : Int} (h : -2147483648 ≤ a ∧ a < 2147483648 ∧ -2147483648 ≤ b ∧ b < 2147483648) : (iI a ≤ iI b) = (a ≤ b) := propext (iI_le h.1 h.2.1 h.2.2.1 h.2.2.2)
theorem q_eq {a b : Int} (h : -2147483648 ≤ a ∧ a < 2147483648 ∧ -2147483648 ≤ b ∧ b < 2147483648) : (iI a = iI b) = (a = b) := propext (iI_eq h.1 h.2.1 h.2.2.1 h.2.2.2)
theorem jI_toInt {z : Int} (h1 : -9223372036854775808 ≤ z) (h2 : z < 9223372036854775808) : (jI z).toInt = z := Int64.toInt_ofInt_of_le h1 h2
theorem jI_add (a b : Int) : jI a + jI b = jI (a + b) := (Int64.ofInt_add a b).symm
theorem jI_sub (a b : Int) : jI a - jI b = jI (a - b) := (Int64.ofInt_sub a b).symm
theorem jI_mul (a b : Int) : jI a * jI b = jI (a * b) := (Int64.ofInt_mul a b).symm
theorem jI_neg (a : Int) : -jI a = jI (-a) := (Int64.ofInt_neg a).symm
theorem jI_of {a : Int} (h : -2147483648 ≤ a ∧ a < 2147483648) : (iI a).toInt64 = jI a := Int32.toInt64_ofInt (by have : Int32.minValue.toInt = -2147483648 := rfl; omega) (by have : Int32.maxValue.toInt = 2147483647 := rfl; omega)
theorem jI_to (a : Int) : (jI a).toInt32 = iI a := Int64.toInt32_ofInt
theorem j_lt {a b : Int} (h : -9223372036854775808 ≤ a ∧ a < 9223372036854775808 ∧ -9223372036854775808 ≤ b ∧ b < 9223372036854775808) : (jI a < jI b) = (a < b) := by
  rw [Int64.lt_iff_toInt_lt, jI_toInt h.1 h.2.1, jI_toInt h.2.2.1 h.2.2.2]
theorem j_le {a b : Int} (h : -9223372036854775808 ≤ a ∧ a < 9223372036854775808 ∧ -9223372036854775808 ≤ b ∧ b < 9223372036854775808) : (jI a ≤ jI b) = (a ≤ b) := by
  rw [Int64.le_iff_toInt_le, jI_toInt h.1 h.2.1, jI_toInt h.2.2.1 h.2.2.2]
theorem j_eq {a b : Int} (h : -9223372036854775808 ≤ a ∧ a < 9223372036854775808 ∧ -9223372036854775808 ≤ b ∧ b < 9223372036854775808) : (jI a = jI b) = (a = b) := by
  rw [← Int64.toInt_inj, jI_toInt h.1 h.2.1, jI_toInt h.2.2.1 h.2.2.2]
theorem j_le0 {a b : Int} (h : -9223372036854775808 ≤ a ∧ a < 9223372036854775808 ∧ -9223372036854775808 ≤ b ∧ b < 9223372036854775808) : (lg_cmp (jI a) (jI b) ≤ iI 0) = (a ≤ b) := (propext (lg_cmp_le _ _)).trans (j_le h)
theorem j_ge0 {a b : Int} (h : -9223372036854775808 ≤ a ∧ a < 9223372036854775808 ∧ -9223372036854775808 ≤ b ∧ b < 9223372036854775808) : (iI 0 ≤ lg_cmp (jI a) (jI b)) = (b ≤ a) := (propext (lg_cmp_ge _ _)).trans (j_le ⟨h.2.2.1, h.2.2.2, h.1, h.2.1⟩)
theorem j_lt0 {a b : Int} (h : -9223372036854775808 ≤ a ∧ a < 9223372036854775808 ∧ -9223372036854775808 ≤ b ∧ b < 9223372036854775808) : (lg_cmp (jI a) (jI b) < iI 0) = (a < b) := (propext (lg_cmp_lt _ _)).trans (j_lt h)
theorem j_gt0 {a b : Int} (h : -9223372036854775808 ≤ a ∧ a < 9223372036854775808 ∧ -9223372036854775808 ≤ b ∧ b < 9223372036854775808) : (iI 0 < lg_cmp (jI a) (jI b)) = (b < a) := (propext (lg_cmp_gt _ _)).trans (j_lt ⟨h.2.2.1, h.2.2.2, h.1, h.2.1⟩)
theorem j_eq0 {a b : Int} (h : -9223372036854775808 ≤ a ∧ a < 9223372036854775808 ∧ -9223372036854775808 ≤ b ∧ b < 9223372036854775808) : (lg_cmp (jI a) (jI b) = iI 0) = (a = b) := (propext (lg_cmp_eq _ _)).trans (j_eq h)
theorem q_bmod32 {x : Int} (h1 : -2147483648 ≤ x) (h2 : x < 2147483648) : x.bmod (2 ^ 32) = x := by
  rw [Int.bmod_def]; omega
theorem q_bmod64 {x : Int} (h1 : -9223372036854775808 ≤ x) (h2 : x < 9223372036854775808) : x.bmod (2 ^ 64) = x := by
  rw [Int.bmod_def]; omega
theorem q_tdiv {a b : Int} (h : 0 ≤ a) : a.tdiv b = a / b := Int.tdiv_eq_ediv_of_nonneg h
theorem q_tdivb {a b n : Int} (h : -n ≤ a ∧ a ≤ n) : -n ≤ a.tdiv b ∧ a.tdiv b ≤ n := by
  have h1 : (a.tdiv b).natAbs ≤ a.natAbs := by
    rw [Int.natAbs_tdiv]
    exact Nat.div_le_self _ _
  omega
theorem q_dvl {a b : Int} (h : -9223372036854775807 ≤ a ∧ a < 9223372036854775808 ∧ b ≠ 0 ∧ -9223372036854775808 ≤ b ∧ b < 9223372036854775808) : gs_dvl (jI a) (jI b) = some (jI (a.tdiv b)) := by
  have h1 : ¬ jI b = 0 := by
    intro e
    have e2 : jI b = jI 0 := e
    rw [j_eq (by omega)] at e2
    exact h.2.2.1 e2
  unfold gs_dvl
  rw [if_neg h1]
  congr 1
  rw [← Int64.toInt_inj, Int64.toInt_div, jI_toInt (by omega) (by omega), jI_toInt (by omega) (by omega)]
  have h2 := q_tdivb (a := a) (b := b) (n := 9223372036854775807) (by omega)
  rw [q_bmod64 (by omega) (by omega), jI_toInt (by omega) (by omega)]
theorem q_dv {a b : Int} (h : -2147483647 ≤ a ∧ a < 2147483648 ∧ b ≠ 0 ∧ -2147483648 ≤ b ∧ b < 2147483648) : gs_dv (iI a) (iI b) = some (iI (a.tdiv b)) := by
  have h1 : ¬ iI b = 0 := by
    intro e
    have e2 : iI b = iI 0 := e
    rw [q_eq (by omega)] at e2
    exact h.2.2.1 e2
  unfold gs_dv
  rw [if_neg h1]
  congr 1
  rw [← Int32.toInt_inj, Int32.toInt_div, iI_toInt (by omega) (by omega), iI_toInt (by omega) (by omega)]
  have h2 := q_tdivb (a := a) (b := b) (n := 2147483647) (by omega)
  rw [q_bmod32 (by omega) (by omega), iI_toInt (by omega) (by omega)]
theorem q_rm {a b : Int} (h : 0 ≤ a ∧ a < 2147483648 ∧ 0 < b ∧ b < 2147483648) : gs_rm9 (iI a) (iI b) = some (iI (a % b)) := by
  have h1 : ¬ iI b = 0 := by
    intro e
    have e2 : iI b = iI 0 := e
    rw [q_eq (by omega)] at e2
    omega
  have e := q_dv (a := a) (b := b) (by omega)
  unfold gs_dv at e
  rw [if_neg h1] at e
  unfold gs_rm9
  rw [if_neg h1, Option.some.inj e, q_tdiv h.1, iI_mul, iI_sub]
  congr 2
  rw [Int.emod_def, Int.mul_comm]
/-- the chain's steps, as rows that simp does not take for unfoldings -/
theorem q_rf {α : Type} {a b : α} (h : a = b) : a = b := h
theorem q_s1 {α0 β : Type} (a0 : α0) (f : α0 → Option β) : gs_b1 (some a0) f = f a0 := q_rf (gs_s1 a0 f)
theorem q_s2 {α0 α1 β : Type} (a0 : α0) (a1 : α1) (f : α0 → α1 → Option β) : gs_b2 (some (a0, a1)) f = f a0 a1 := q_rf (gs_s2 a0 a1 f)
theorem q_s3 {α0 α1 α2 β : Type} (a0 : α0) (a1 : α1) (a2 : α2) (f : α0 → α1 → α2 → Option β) : gs_b3 (some (a0, a1, a2)) f = f a0 a1 a2 := q_rf (gs_s3 a0 a1 a2 f)
theorem q_s4 {α0 α1 α2 α3 β : Type} (a0 : α0) (a1 : α1) (a2 : α2) (a3 : α3) (f : α0 → α1 → α2 → α3 → Option β) : gs_b4 (some (a0, a1, a2, a3)) f = f a0 a1 a2 a3 := q_rf (gs_s4 a0 a1 a2 a3 f)
theorem q_s5 {α0 α1 α2 α3 α4 β : Type} (a0 : α0) (a1 : α1) (a2 : α2) (a3 : α3) (a4 : α4) (f : α0 → α1 → α2 → α3 → α4 → Option β) : gs_b5 (some (a0, a1, a2, a3, a4)) f = f a0 a1 a2 a3 a4 := q_rf (gs_s5 a0 a1 a2 a3 a4 f)
theorem qz0 : gs_ckZ (iI 0) = some (iI 0) := q_rf rfl
theorem qz1 : gs_ckZ (iI 1) = some (iI 1) := q_rf rfl
theorem qz2 {c : Prop} [Decidable c] : gs_ckZ (if c then iI 0 else iI 1) = some (if c then iI 0 else iI 1) := by
  by_cases h : c
  · rw [if_pos h]; rfl
  · rw [if_neg h]; rfl
theorem qz3 {c : Prop} [Decidable c] : gs_ckZ (if c then iI 1 else iI 0) = some (if c then iI 1 else iI 0) := by
  by_cases h : c
  · rw [if_pos h]; rfl
  · rw [if_neg h]; rfl
/-- a cell of an array, its place as an Int -/
theorem q_rd {M : gs_M} {r k : Nat} {z : Int} (h : 0 ≤ z ∧ z < k ∧ (k : Int) ≤ 65536) : gs_rd M r k (iI z) = some (M r z.toNat) := by
  obtain ⟨j, rfl⟩ : ∃ j : Nat, z = (j : Int) := ⟨z.toNat, by omega⟩
  exact gs_rd_nI (by omega) (by omega)
theorem q_rdl {L : gs_L} {r k : Nat} {z : Int} (h : 0 ≤ z ∧ z < k ∧ (k : Int) ≤ 65536) : gs_rdl L r k (iI z) = some (L r z.toNat) := by
  obtain ⟨j, rfl⟩ : ∃ j : Nat, z = (j : Int) := ⟨z.toNat, by omega⟩
  exact gs_rdl_nI (by omega) (by omega)
theorem q_wr {M : gs_M} {r k : Nat} {z : Int} {v : Int32} (h : 0 ≤ z ∧ z < k ∧ (k : Int) ≤ 65536) : gs_wr M r k (iI z) v = some (gs_up M r z.toNat v) := by
  obtain ⟨j, rfl⟩ : ∃ j : Nat, z = (j : Int) := ⟨z.toNat, by omega⟩
  exact gs_wr_nI (by omega) (by omega)
theorem q_wrl {L : gs_L} {r k : Nat} {z : Int} {v : Int64} (h : 0 ≤ z ∧ z < k ∧ (k : Int) ≤ 65536) : gs_wrl L r k (iI z) v = some (gs_upl L r z.toNat v) := by
  obtain ⟨j, rfl⟩ : ∃ j : Nat, z = (j : Int) := ⟨z.toNat, by omega⟩
  exact gs_wrl_nI (by omega) (by omega)
theorem q_rdn {M : gs_M} {r k : Nat} {z : Int} (j : Nat) (e : z = j) (h : j < k) (hk : k ≤ 65536) : gs_rd M r k (iI z) = some (M r j) := by
  subst e
  exact gs_rd_nI h hk
theorem q_wrn {M : gs_M} {r k : Nat} {z : Int} {v : Int32} (j : Nat) (e : z = j) (h : j < k) (hk : k ≤ 65536) : gs_wr M r k (iI z) v = some (gs_up M r j v) := by
  subst e
  exact gs_wr_nI h hk
theorem q_wrln {L : gs_L} {r k : Nat} {z : Int} {v : Int64} (j : Nat) (e : z = j) (h : j < k) (hk : k ≤ 65536) : gs_wrl L r k (iI z) v = some (gs_upl L r j v) := by
  subst e
  exact gs_wrl_nI h hk
theorem q_rdln {L : gs_L} {r k : Nat} {z : Int} (j : Nat) (e : z = j) (h : j < k) (hk : k ≤ 65536) : gs_rdl L r k (iI z) = some (L r j) := by
  subst e
  exact gs_rdl_nI h hk
/-- an int is below 0, beyond n, or one of 0 .. n - 1 -/
theorem q_cut (x : Int32) (n : Int) (h0 : 0 ≤ n) (hn : n ≤ 65536) : x < iI 0 ∨ (iI n ≤ x ∧ ¬ x < iI 0) ∨ ∃ j : Nat, (j : Int) < n ∧ x = iI j := by
  by_cases h1 : x < iI 0
  · exact Or.inl h1
  · by_cases h2 : iI n ≤ x
    · exact Or.inr (Or.inl ⟨h2, h1⟩)
    · refine Or.inr (Or.inr ⟨x.toInt.toNat, ?_, ?_⟩)
      · rw [Int32.lt_iff_toInt_lt, iI_toInt (by omega) (by omega)] at h1
        rw [Int32.le_iff_toInt_le, iI_toInt (by omega) (by omega)] at h2
        omega
      · rw [Int32.lt_iff_toInt_lt, iI_toInt (by omega) (by omega)] at h1
        have e : ((x.toInt.toNat : Nat) : Int) = x.toInt := by omega
        rw [e]
        exact iI_of x
theorem q_any (x : Int32) : ∃ z : Int, -2147483648 ≤ z ∧ z < 2147483648 ∧ x = iI z := by
  refine ⟨x.toInt, ?_, ?_, iI_of x⟩
  · have := Int32.le_toInt x; omega
  · have := Int32.toInt_lt x; omega
theorem q_anyj (x : Int64) : ∃ z : Int, -9223372036854775808 ≤ z ∧ z < 9223372036854775808 ∧ x = jI z := by
  refine ⟨x.toInt, ?_, ?_, (Int64.ofInt_toInt x).symm⟩
  · have := Int64.le_toInt x; omega
  · have := Int64.toInt_lt x; omega
/-! a loop that counts up; one that counts down; one by a measure -/
theorem ma_up {σ ρ : Type} (F : Nat → Int32 → σ → Option ρ) (n : Nat) (P : Nat → σ → Prop) (Q : ρ → Prop)
    (hs : ∀ (f i : Nat) (s : σ), i < n → P i s → (∃ s', F (f + 1) (iI i) s = F f (iI ((i : Int) + 1)) s' ∧ P (i + 1) s') ∨ ∃ r, F (f + 1) (iI i) s = some r ∧ Q r)
    (he : ∀ (f : Nat) (s : σ), P n s → ∃ r, F (f + 1) (iI n) s = some r ∧ Q r) :
    ∀ (d i : Nat) (s : σ) (f : Nat), i + d = n → P i s → d < f → ∃ r, F f (iI i) s = some r ∧ Q r := by
  intro d
  induction d with
  | zero =>
    intro i s f hi hp hf
    obtain ⟨g, rfl⟩ : ∃ g, f = g + 1 := ⟨f - 1, by omega⟩
    have e : i = n := by omega
    subst e
    exact he g s hp
  | succ d ih =>
    intro i s f hi hp hf
    obtain ⟨g, rfl⟩ : ∃ g, f = g + 1 := ⟨f - 1, by omega⟩
    rcases hs g i s (by omega) hp with ⟨s', e, hp'⟩ | h
    · rw [e]
      exact ih (i + 1) s' g (by omega) hp' (by omega)
    · exact h
/-- from 0, by the fuel that every loop has -/
theorem ma_up0 {σ ρ : Type} (F : Nat → Int32 → σ → Option ρ) (n : Nat) (P : Nat → σ → Prop) (Q : ρ → Prop) (s : σ) (hn : n < 30000) (h0 : P 0 s)
    (hs : ∀ (f i : Nat) (s : σ), i < n → P i s → (∃ s', F (f + 1) (iI i) s = F f (iI ((i : Int) + 1)) s' ∧ P (i + 1) s') ∨ ∃ r, F (f + 1) (iI i) s = some r ∧ Q r)
    (he : ∀ (f : Nat) (s : σ), P n s → ∃ r, F (f + 1) (iI n) s = some r ∧ Q r) : ∃ r, F gs_FU (iI 0) s = some r ∧ Q r :=
  ma_up F n P Q hs he n 0 s gs_FU (by omega) h0 hn
/-- from 1 -/
theorem ma_up1 {σ ρ : Type} (F : Nat → Int32 → σ → Option ρ) (n : Nat) (P : Nat → σ → Prop) (Q : ρ → Prop) (s : σ) (h1 : 1 ≤ n) (hn : n < 30000) (h0 : P 1 s)
    (hs : ∀ (f i : Nat) (s : σ), i < n → P i s → (∃ s', F (f + 1) (iI i) s = F f (iI ((i : Int) + 1)) s' ∧ P (i + 1) s') ∨ ∃ r, F (f + 1) (iI i) s = some r ∧ Q r)
    (he : ∀ (f : Nat) (s : σ), P n s → ∃ r, F (f + 1) (iI n) s = some r ∧ Q r) : ∃ r, F gs_FU (iI 1) s = some r ∧ Q r :=
  ma_up F n P Q hs he (n - 1) 1 s gs_FU (by omega) h0 (by show n - 1 < 30000; omega)
theorem ma_me {σ ρ : Type} (F : Nat → σ → Option ρ) (P : Nat → σ → Prop) (Q : ρ → Prop)
    (hs : ∀ (f k : Nat) (s : σ), P k s → (∃ k' s', k' < k ∧ F (f + 1) s = F f s' ∧ P k' s') ∨ ∃ r, F (f + 1) s = some r ∧ Q r) :
    ∀ (d k : Nat) (s : σ) (f : Nat), k ≤ d → P k s → d < f → ∃ r, F f s = some r ∧ Q r := by
  intro d
  induction d with
  | zero =>
    intro k s f hk hp hf
    obtain ⟨g, rfl⟩ : ∃ g, f = g + 1 := ⟨f - 1, by omega⟩
    rcases hs g k s hp with ⟨k', s', h1, _, _⟩ | h
    · omega
    · exact h
  | succ d ih =>
    intro k s f hk hp hf
    obtain ⟨g, rfl⟩ : ∃ g, f = g + 1 := ⟨f - 1, by omega⟩
    rcases hs g k s hp with ⟨k', s', h1, e, hp'⟩ | h
    · rw [e]
      exact ih k' s' g (by omega) hp' (by omega)
    · exact h
/-- sums -/
def ma_sm : Nat → (Nat → Int) → Int
  | 0, _ => 0
  | n + 1, f => ma_sm n f + f n
theorem ma_sm_b {n : Nat} {f : Nat → Int} {a b : Int} (h : ∀ i, i < n → a ≤ f i ∧ f i ≤ b) : (n : Int) * a ≤ ma_sm n f ∧ ma_sm n f ≤ (n : Int) * b := by
  induction n with
  | zero => simp [ma_sm]
  | succ n ih =>
    have h1 := ih (fun i hi => h i (by omega))
    have h2 := h n (by omega)
    simp only [ma_sm]
    have e1 : ((n + 1 : Nat) : Int) * a = n * a + a := by rw [Int.natCast_add, Int.add_mul]; simp
    have e2 : ((n + 1 : Nat) : Int) * b = n * b + b := by rw [Int.natCast_add, Int.add_mul]; simp
    omega
theorem ma_sm_c {n : Nat} {f g : Nat → Int} (h : ∀ i, i < n → f i = g i) : ma_sm n f = ma_sm n g := by
  induction n with
  | zero => rfl
  | succ n ih =>
    simp only [ma_sm]
    rw [ih (fun i hi => h i (by omega)), h n (by omega)]
