/-! numbers: ints by Int32.ofInt; reads and writes at places that are in range -/
def iI (z : Int) : Int32 := Int32.ofInt z
theorem iI_nI (n : Nat) : nI n = iI (n : Int) := rfl
theorem iI_toInt {z : Int} (h1 : -2147483648 ≤ z) (h2 : z < 2147483648) : (iI z).toInt = z := Int32.toInt_ofInt_of_le h1 h2
theorem iI_of (x : Int32) : x = iI x.toInt := (Int32.ofInt_toInt x).symm
theorem iI_add (a b : Int) : iI a + iI b = iI (a + b) := (Int32.ofInt_add a b).symm
theorem iI_sub (a b : Int) : iI a - iI b = iI (a - b) := (Int32.ofInt_sub a b).symm
theorem iI_mul (a b : Int) : iI a * iI b = iI (a * b) := (Int32.ofInt_mul a b).symm
theorem iI_neg (a : Int) : -iI a = iI (-a) := (Int32.ofInt_neg a).symm
theorem iI_lt {a b : Int} (h1 : -2147483648 ≤ a) (h2 : a < 2147483648) (h3 : -2147483648 ≤ b) (h4 : b < 2147483648) : iI a < iI b ↔ a < b := by
  rw [Int32.lt_iff_toInt_lt, iI_toInt h1 h2, iI_toInt h3 h4]
theorem iI_le {a b : Int} (h1 : -2147483648 ≤ a) (h2 : a < 2147483648) (h3 : -2147483648 ≤ b) (h4 : b < 2147483648) : iI a ≤ iI b ↔ a ≤ b := by
  rw [Int32.le_iff_toInt_le, iI_toInt h1 h2, iI_toInt h3 h4]
theorem iI_eq {a b : Int} (h1 : -2147483648 ≤ a) (h2 : a < 2147483648) (h3 : -2147483648 ≤ b) (h4 : b < 2147483648) : iI a = iI b ↔ a = b := by
  rw [← Int32.toInt_inj, iI_toInt h1 h2, iI_toInt h3 h4]
theorem iI_clamp {z : Int} (h1 : 0 ≤ z) (h2 : z < 2147483648) : (iI z).toNatClampNeg = z.toNat := by
  show (iI z).toInt.toNat = z.toNat
  rw [iI_toInt (by omega) h2]
theorem gs_rd_nI {M : gs_M} {r k j : Nat} (h : j < k) (hk : k ≤ 65536) : gs_rd M r k (nI j) = some (M r j) := by
  unfold gs_rd
  rw [if_neg (nI_in h (by omega)), nI_clamp (by omega)]
theorem gs_rdl_nI {L : gs_L} {r k j : Nat} (h : j < k) (hk : k ≤ 65536) : gs_rdl L r k (nI j) = some (L r j) := by
  unfold gs_rdl
  rw [if_neg (nI_in h (by omega)), nI_clamp (by omega)]
theorem gs_wr_nI {M : gs_M} {r k j : Nat} {v : Int32} (h : j < k) (hk : k ≤ 65536) : gs_wr M r k (nI j) v = some (gs_up M r j v) := by
  unfold gs_wr
  rw [if_neg (nI_in h (by omega)), nI_clamp (by omega)]
theorem gs_wrl_nI {L : gs_L} {r k j : Nat} {v : Int64} (h : j < k) (hk : k ≤ 65536) : gs_wrl L r k (nI j) v = some (gs_upl L r j v) := by
  unfold gs_wrl
  rw [if_neg (nI_in h (by omega)), nI_clamp (by omega)]
theorem gs_rdq_nI {r k j : Nat} (h : j < k) (hk : k ≤ 65536) : gs_rdq r k (nI j) = some (gs_rel r j) := by
  unfold gs_rdq
  rw [if_neg (nI_in h (by omega)), nI_clamp (by omega)]
/-- the memory at one cell, and at the others -/
theorem gs_up_eq (M : gs_M) (i k : Nat) (v : Int32) : gs_up M i k v i k = v := by simp [gs_up]
theorem gs_up_at (M : gs_M) (i k : Nat) (v : Int32) (a b : Nat) : gs_up M i k v a b = if a = i ∧ b = k then v else M a b := rfl
theorem gs_upl_at (M : gs_L) (i k : Nat) (v : Int64) (a b : Nat) : gs_upl M i k v a b = if a = i ∧ b = k then v else M a b := rfl
theorem gs_row_at (M : gs_M) (i : Nat) (f : Nat → Int32) (a b : Nat) : gs_row M i f a b = if a = i then f b else M a b := by
  unfold gs_row
  by_cases h : a = i
  · rw [if_pos h, if_pos h]
  · rw [if_neg h, if_neg h]
/-- an int is below 0, beyond k, or one of 0 .. k - 1 -/
theorem gs_cut (x : Int32) (k : Nat) (hk : k ≤ 65536) : x < 0 ∨ nI k ≤ x ∨ ∃ j : Nat, j < k ∧ x = nI j := pk_ix x (by omega)
