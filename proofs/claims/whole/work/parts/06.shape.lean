/-! the fixed graph of objects and arrays, by the order in which they are made -/
def gs_shl : List ((Nat × Nat) ⊕ (Nat × List (Nat × Nat))) := [
  .inr (11, [(2, 1), (2, 3), (2, 6), (2, 9), (2, 11), (2, 13), (2, 95), (2, 104), (2, 98), (2, 105), (2, 132), (2, 134), (2, 140), (2, 146), (0, 0), (0, 0)]),
  .inr (7, [(2, 2), (0, 0), (0, 0), (0, 0)]),
  .inl (0, 240),
  .inr (9, [(2, 4), (2, 5), (0, 0), (0, 0)]),
  .inl (0, 3),
  .inl (0, 40),
  .inr (9, [(2, 7), (2, 8), (0, 0), (0, 0)]),
  .inl (0, 3),
  .inl (0, 40),
  .inr (6, [(2, 10)]),
  .inl (0, 173),
  .inr (6, [(2, 12)]),
  .inl (0, 173),
  .inr (0, [(2, 14), (0, 0), (0, 0)]),
  .inl (4, 40),
  .inr (6, [(2, 16)]),
  .inl (0, 173),
  .inr (6, [(2, 18)]),
  .inl (0, 173),
  .inr (6, [(2, 20)]),
  .inl (0, 173),
  .inr (6, [(2, 22)]),
  .inl (0, 173),
  .inr (6, [(2, 24)]),
  .inl (0, 173),
  .inr (6, [(2, 26)]),
  .inl (0, 173),
  .inr (6, [(2, 28)]),
  .inl (0, 173),
  .inr (6, [(2, 30)]),
  .inl (0, 173),
  .inr (6, [(2, 32)]),
  .inl (0, 173),
  .inr (6, [(2, 34)]),
  .inl (0, 173),
  .inr (6, [(2, 36)]),
  .inl (0, 173),
  .inr (6, [(2, 38)]),
  .inl (0, 173),
  .inr (6, [(2, 40)]),
  .inl (0, 173),
  .inr (6, [(2, 42)]),
  .inl (0, 173),
  .inr (6, [(2, 44)]),
  .inl (0, 173),
  .inr (6, [(2, 46)]),
  .inl (0, 173),
  .inr (6, [(2, 48)]),
  .inl (0, 173),
  .inr (6, [(2, 50)]),
  .inl (0, 173),
  .inr (6, [(2, 52)]),
  .inl (0, 173),
  .inr (6, [(2, 54)]),
  .inl (0, 173),
  .inr (6, [(2, 56)]),
  .inl (0, 173),
  .inr (6, [(2, 58)]),
  .inl (0, 173),
  .inr (6, [(2, 60)]),
  .inl (0, 173),
  .inr (6, [(2, 62)]),
  .inl (0, 173),
  .inr (6, [(2, 64)]),
  .inl (0, 173),
  .inr (6, [(2, 66)]),
  .inl (0, 173),
  .inr (6, [(2, 68)]),
  .inl (0, 173),
  .inr (6, [(2, 70)]),
  .inl (0, 173),
  .inr (6, [(2, 72)]),
  .inl (0, 173),
  .inr (6, [(2, 74)]),
  .inl (0, 173),
  .inr (6, [(2, 76)]),
  .inl (0, 173),
  .inr (6, [(2, 78)]),
  .inl (0, 173),
  .inr (6, [(2, 80)]),
  .inl (0, 173),
  .inr (6, [(2, 82)]),
  .inl (0, 173),
  .inr (6, [(2, 84)]),
  .inl (0, 173),
  .inr (6, [(2, 86)]),
  .inl (0, 173),
  .inr (6, [(2, 88)]),
  .inl (0, 173),
  .inr (6, [(2, 90)]),
  .inl (0, 173),
  .inr (6, [(2, 92)]),
  .inl (0, 173),
  .inr (6, [(2, 94)]),
  .inl (0, 173),
  .inr (10, [(2, 96), (2, 97), (0, 0), (0, 0)]),
  .inl (0, 36),
  .inl (0, 9),
  .inr (2, [(2, 99), (2, 100), (2, 101), (2, 102), (2, 103), (0, 0), (0, 0)]),
  .inl (0, 240),
  .inl (0, 61),
  .inl (0, 61),
  .inl (0, 61),
  .inl (0, 32),
  .inr (3, [(2, 1), (3, 0)]),
  .inr (4, [(2, 3), (2, 9), (2, 106), (2, 107), (0, 0), (0, 0)]),
  .inl (5, 4),
  .inl (0, 6),
  .inr (2, [(2, 109), (2, 110), (2, 111), (2, 112), (2, 113), (0, 0), (0, 0)]),
  .inl (0, 240),
  .inl (0, 61),
  .inl (0, 61),
  .inl (0, 61),
  .inl (0, 32),
  .inr (2, [(2, 115), (2, 116), (2, 117), (2, 118), (2, 119), (0, 0), (0, 0)]),
  .inl (0, 240),
  .inl (0, 61),
  .inl (0, 61),
  .inl (0, 61),
  .inl (0, 32),
  .inr (2, [(2, 121), (2, 122), (2, 123), (2, 124), (2, 125), (0, 0), (0, 0)]),
  .inl (0, 240),
  .inl (0, 61),
  .inl (0, 61),
  .inl (0, 61),
  .inl (0, 32),
  .inr (2, [(2, 127), (2, 128), (2, 129), (2, 130), (2, 131), (0, 0), (0, 0)]),
  .inl (0, 240),
  .inl (0, 61),
  .inl (0, 61),
  .inl (0, 61),
  .inl (0, 32),
  .inr (5, [(2, 3), (2, 9), (2, 105), (2, 95), (2, 133), (1, 0)]),
  .inl (0, 8),
  .inr (1, [(2, 3), (2, 105), (2, 135), (2, 136), (2, 137), (2, 138), (2, 139), (0, 0), (0, 0), (0, 0)]),
  .inl (0, 12),
  .inl (0, 12),
  .inl (3, 12),
  .inl (1, 8),
  .inl (0, 9),
  .inr (8, [(2, 3), (2, 9), (2, 105), (2, 141), (2, 142), (2, 143), (2, 144), (2, 145), (0, 0), (0, 0)]),
  .inl (0, 6561),
  .inl (0, 8),
  .inl (0, 8),
  .inl (0, 8),
  .inl (0, 72),
  .inl (0, 10),
  .inr (12, [(0, 0), (2, 148), (2, 149), (2, 150), (2, 151), (3, 0), (0, 0), (0, 0), (0, 0), (0, 0), (0, 0), (0, 0), (0, 0), (0, 0), (0, 0), (2, 1003), (2, 1002), (0, 0), (2, 152), (2, 153), (2, 154), (2, 155), (2, 156), (2, 157), (0, 0), (0, 0), (0, 0), (0, 0), (2, 158), (0, 0), (0, 0), (0, 0), (1, 0), (2, 159), (2, 160), (0, 0), (2, 161), (2, 162), (2, 163), (2, 164), (0, 0), (2, 165), (2, 166), (2, 167), (2, 168), (2, 169), (0, 0)]),
  .inl (2, 240),
  .inl (2, 960),
  .inl (0, 4),
  .inl (0, 128),
  .inl (0, 3),
  .inl (0, 3),
  .inl (0, 40),
  .inl (0, 40),
  .inl (0, 45),
  .inl (0, 5),
  .inl (0, 533),
  .inl (0, 8),
  .inl (0, 21320),
  .inl (1, 11),
  .inl (0, 12),
  .inl (0, 12),
  .inl (3, 12),
  .inl (0, 512),
  .inl (0, 512),
  .inl (0, 72),
  .inl (0, 9),
  .inl (0, 533),
  .inl (1, 1)]
def gs_N : Nat := 171
theorem gs_N_eq : gs_shl.length = gs_N := by decide +kernel
/-! memories of the fixed graph: ints and longs by place and index -/
abbrev gs_M : Type := Nat → Nat → Int32
abbrev gs_L : Type := Nat → Nat → Int64
def gs_up (M : gs_M) (i k : Nat) (v : Int32) : gs_M := fun a b => if a = i ∧ b = k then v else M a b
def gs_upl (M : gs_L) (i k : Nat) (v : Int64) : gs_L := fun a b => if a = i ∧ b = k then v else M a b
def gs_row (M : gs_M) (i : Nat) (f : Nat → Int32) : gs_M := fun a => if a = i then f else M a
def gs_sh (i : Nat) : (Nat × Nat) ⊕ (Nat × List (Nat × Nat)) := gs_shl.getD i (.inr (99, []))
def gs_rel (i j : Nat) : Nat := if i = 14 then 15 + 2 * j else 108 + 6 * j
def gs_cv (ad : Nat → Nat) : Value → Value
  | .ref k => .ref (ad k)
  | v => v
def gs_fv (ad : Nat → Nat) (x : Int32) (y : Int64) (t : Nat × Nat) : Value :=
  match t.1 with
  | 0 => .int x
  | 1 => .long y
  | 2 => .ref (ad t.2)
  | _ => .ref (ad x.toNatClampNeg)
def gs_fs (ad : Nat → Nat) (M : Nat → Int32) (L : Nat → Int64) (fs : List (Nat × Nat)) : List Value := fs.mapIdx (fun k t => gs_fv ad (M k) (L k) t)
def gs_arr (ad : Nat → Nat) (M : Nat → Int32) (L : Nat → Int64) (i t : Nat) : (Nat → Int32) ⊕ (Nat → Int64) ⊕ (Nat → UInt32) ⊕ (Nat → UInt64) ⊕ (Nat → Option Nat) :=
  match t with
  | 0 => .inl M
  | 1 => .inr (.inl L)
  | 2 => .inl M
  | 3 => .inl M
  | _ => .inr (.inr (.inr (.inr (fun j => some (ad (gs_rel i j))))))
def gs_cell (ad : Nat → Nat) (dA : Nat → ClassId) (M : Nat → Int32) (L : Nat → Int64) (i : Nat) : va_E :=
  match gs_sh i with
  | .inl (t, n) => .inl (dA t, n, gs_arr ad M L i t)
  | .inr (ci, fs) => .inr (ci, gs_fs ad M L fs)
def gs_ws (ad : Nat → Nat) (dA : Nat → ClassId) (M : gs_M) (L : gs_L) : va_W := (List.range gs_N).map (fun i => (ad i, gs_cell ad dA (M i) (L i) i))
def gs_tys (dA : Nat → ClassId) : List (ClassId × FieldType) := [(dA 0, .int), (dA 1, .long), (dA 2, .byte), (dA 3, .boolean), (dA 4, .object "GuiltySleep$State"), (dA 5, .object "GuiltySleep$Law")]
def gs_A (ad : Nat → Nat) : Nat → Prop := fun q => ∃ i, i < gs_N ∧ q = ad i
def gs_inj (ad : Nat → Nat) : Prop := ∀ i j, i < gs_N → j < gs_N → ad i = ad j → i = j
theorem gs_get (ad : Nat → Nat) (dA : Nat → ClassId) (M : gs_M) (L : gs_L) {i : Nat} (h : i < gs_N) : (gs_ws ad dA M L)[i]? = some (ad i, gs_cell ad dA (M i) (L i) i) := by
  simp [gs_ws, List.getElem?_map, List.getElem?_range, h]
theorem gs_get' {ad : Nat → Nat} {dA : Nat → ClassId} {M : gs_M} {L : gs_L} {i : Nat} {x : Nat × va_E} (h : (gs_ws ad dA M L)[i]? = some x) : i < gs_N ∧ x = (ad i, gs_cell ad dA (M i) (L i) i) := by
  have hl : i < gs_N := by
    have := (List.getElem?_eq_some_iff.mp h).1
    simpa [gs_ws] using this
  rw [gs_get ad dA M L hl] at h
  exact ⟨hl, (Option.some.inj h).symm⟩
theorem gs_lt_inl {i : Nat} {x : Nat × Nat} (h : gs_sh i = .inl x) : i < gs_N := by
  by_cases hl : i < gs_shl.length
  · rw [← gs_N_eq]; exact hl
  · unfold gs_sh at h
    rw [List.getD_eq_getElem?_getD, List.getElem?_eq_none (by omega)] at h
    cases h
theorem gs_lt_inr {i ci : Nat} {fs : List (Nat × Nat)} (h : gs_sh i = .inr (ci, fs)) (hc : ci < 13) : i < gs_N := by
  by_cases hl : i < gs_shl.length
  · rw [← gs_N_eq]; exact hl
  · unfold gs_sh at h
    rw [List.getD_eq_getElem?_getD, List.getElem?_eq_none (by omega)] at h
    cases h
    omega
theorem gs_set {ad : Nat → Nat} {dA : Nat → ClassId} {M M' : gs_M} {L L' : gs_L} {i : Nat} (hi : i < gs_N) (h : ∀ j, j ≠ i → M' j = M j ∧ L' j = L j) : (gs_ws ad dA M L).set i (ad i, gs_cell ad dA (M' i) (L' i) i) = gs_ws ad dA M' L' := by
  apply List.ext_getElem?
  intro j
  by_cases hj : j < gs_N
  · rw [gs_get ad dA M' L' hj, List.getElem?_set]
    by_cases e : i = j
    · subst e
      simp [gs_ws, hi]
    · rw [if_neg e, gs_get ad dA M L hj]
      obtain ⟨h1, h2⟩ := h j (fun z => e z.symm)
      rw [h1, h2]
  · rw [List.getElem?_eq_none (by simp [gs_ws]; omega), List.getElem?_eq_none (by simp [gs_ws]; omega)]
theorem gs_D {ad : Nat → Nat} (dA : Nat → ClassId) (M : gs_M) (L : gs_L) (h : gs_inj ad) : va_D (gs_A ad) (gs_ws ad dA M L) := by
  refine ⟨fun i j p q hp hq e => ?_, fun k q hq => ?_⟩
  · obtain ⟨h1, rfl⟩ := gs_get' hp
    obtain ⟨h2, rfl⟩ := gs_get' hq
    exact h i j h1 h2 e
  · obtain ⟨h1, rfl⟩ := gs_get' hq
    exact ⟨k, h1, rfl⟩
theorem gs_up_row (M : gs_M) (i k : Nat) (v : Int32) : gs_up M i k v i = upd (M i) k v := by
  funext b
  simp [gs_up, upd]
theorem gs_up_ne (M : gs_M) {i j : Nat} (k : Nat) (v : Int32) (h : j ≠ i) : gs_up M i k v j = M j := by
  funext b
  simp [gs_up, h]
theorem gs_upl_row (M : gs_L) (i k : Nat) (v : Int64) : gs_upl M i k v i = vp_updL (M i) k v := by
  funext b
  simp [gs_upl, vp_updL]
theorem gs_upl_ne (M : gs_L) {i j : Nat} (k : Nat) (v : Int64) (h : j ≠ i) : gs_upl M i k v j = M j := by
  funext b
  simp [gs_upl, h]
theorem gs_row_row (M : gs_M) (i : Nat) (f : Nat → Int32) : gs_row M i f i = f := by simp [gs_row]
theorem gs_row_ne (M : gs_M) {i j : Nat} (f : Nat → Int32) (h : j ≠ i) : gs_row M i f j = M j := by simp [gs_row, h]
theorem gs_cv_cat (ad : Nat → Nat) (v : Value) : (gs_cv ad v).category = v.category := by cases v <;> rfl
theorem gs_fs_len (ad : Nat → Nat) (M : Nat → Int32) (L : Nat → Int64) (fs : List (Nat × Nat)) : (gs_fs ad M L fs).length = fs.length := by simp [gs_fs]
theorem gs_fs_get (ad : Nat → Nat) (M : Nat → Int32) (L : Nat → Int64) {fs : List (Nat × Nat)} {k : Nat} {t : Nat × Nat} (h : fs[k]? = some t) : (gs_fs ad M L fs)[k]? = some (gs_fv ad (M k) (L k) t) := by
  simp [gs_fs, h]
theorem gs_fs_ext (ad : Nat → Nat) (M M' : Nat → Int32) (L L' : Nat → Int64) {fs : List (Nat × Nat)} {k : Nat} (v : Value) (hk : k < fs.length) (hv : ∀ t, fs[k]? = some t → gs_fv ad (M' k) (L' k) t = v) (hM : ∀ j, j ≠ k → M' j = M j ∧ L' j = L j) : (gs_fs ad M L fs).set k v = gs_fs ad M' L' fs := by
  apply List.ext_getElem?
  intro j
  rw [List.getElem?_set]
  by_cases e : k = j
  · subst e
    rw [if_pos rfl, if_pos (by rw [gs_fs_len]; exact hk), gs_fs_get _ _ _ (List.getElem?_eq_getElem hk), hv _ (List.getElem?_eq_getElem hk)]
  · rw [if_neg e]
    simp only [gs_fs, List.getElem?_mapIdx]
    obtain ⟨h1, h2⟩ := hM j (fun z => e z.symm)
    rw [h1, h2]
theorem gs_upd_eq (M : Nat → Int32) (k : Nat) (v : Int32) : upd M k v k = v := if_pos rfl
theorem gs_upd_ne (M : Nat → Int32) {k j : Nat} (v : Int32) (h : j ≠ k) : upd M k v j = M j := if_neg h
theorem gs_updL_eq (M : Nat → Int64) (k : Nat) (v : Int64) : vp_updL M k v k = v := if_pos rfl
theorem gs_updL_ne (M : Nat → Int64) {k j : Nat} (v : Int64) (h : j ≠ k) : vp_updL M k v j = M j := if_neg h
theorem gs_fs_set (ad : Nat → Nat) (M : Nat → Int32) (L : Nat → Int64) {fs : List (Nat × Nat)} {k q : Nat} (v : Int32) (h : fs[k]? = some (0, q)) : (gs_fs ad M L fs).set k (.int v) = gs_fs ad (upd M k v) L fs :=
  gs_fs_ext ad M (upd M k v) L L (.int v) (List.getElem?_eq_some_iff.mp h).1 (fun t ht => by rw [h] at ht; cases ht; rw [gs_upd_eq]; rfl) (fun j hj => ⟨gs_upd_ne M v hj, rfl⟩)
theorem gs_fs_setR (ad : Nat → Nat) (M : Nat → Int32) (L : Nat → Int64) {fs : List (Nat × Nat)} {k q : Nat} (v : Int32) (h : fs[k]? = some (3, q)) : (gs_fs ad M L fs).set k (.ref (ad v.toNatClampNeg)) = gs_fs ad (upd M k v) L fs :=
  gs_fs_ext ad M (upd M k v) L L (.ref (ad v.toNatClampNeg)) (List.getElem?_eq_some_iff.mp h).1 (fun t ht => by rw [h] at ht; cases ht; rw [gs_upd_eq]; rfl) (fun j hj => ⟨gs_upd_ne M v hj, rfl⟩)
theorem gs_fs_setL (ad : Nat → Nat) (M : Nat → Int32) (L : Nat → Int64) {fs : List (Nat × Nat)} {k q : Nat} (v : Int64) (h : fs[k]? = some (1, q)) : (gs_fs ad M L fs).set k (.long v) = gs_fs ad M (vp_updL L k v) fs :=
  gs_fs_ext ad M M L (vp_updL L k v) (.long v) (List.getElem?_eq_some_iff.mp h).1 (fun t ht => by rw [h] at ht; cases ht; rw [gs_updL_eq]; rfl) (fun j hj => ⟨rfl, gs_updL_ne L v hj⟩)
