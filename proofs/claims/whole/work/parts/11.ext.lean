theorem ml_X6_15 : Cond.methodLink RX6 15 arraycopyName ∈ gs_W := gs_w4 70 rfl rfl
theorem ml_X9_22 : Cond.methodLink RX9 22 arraycopyName ∈ gs_W := gs_w2 137 rfl rfl
theorem ml_X10_59 : Cond.methodLink RX10 59 arraycopyName ∈ gs_W := gs_w3 195 rfl rfl
theorem gw_st_37 : Cond.fieldLink RX9 37 "GuiltySleep$Town" (gs_snm.getD 2 "") "[I" ∈ gs_W := gs_w2 135 rfl rfl
theorem gw_st_63 : Cond.fieldLink RX9 63 "GuiltySleep$Town" (gs_snm.getD 0 "") "[I" ∈ gs_W := gs_w2 153 rfl rfl
theorem gw_st_66 : Cond.fieldLink RX9 66 "GuiltySleep$Town" (gs_snm.getD 1 "") "[I" ∈ gs_W := gs_w2 155 rfl rfl
theorem gw_st_73 : Cond.fieldLink RX9 73 "GuiltySleep$Town" (gs_snm.getD 5 "") "[I" ∈ gs_W := gs_w3 34 rfl rfl
theorem gw_st_78 : Cond.fieldLink RX9 78 "GuiltySleep$Town" (gs_snm.getD 3 "") "[I" ∈ gs_W := gs_w3 37 rfl rfl
theorem gw_st_81 : Cond.fieldLink RX9 81 "GuiltySleep$Town" (gs_snm.getD 4 "") "[I" ∈ gs_W := gs_w3 39 rfl rfl
theorem gs_swOut {x : Int32} {vs : List Int32} (lo : Int) (k : Nat) (hv : ∀ j, j < k → Int32.ofInt (lo + (j : Int)) ∈ vs) (hx : ∀ v ∈ vs, ¬ x = v) : x.toInt < lo ∨ lo + k - 1 < x.toInt := by
  by_cases h1 : x.toInt < lo
  · exact Or.inl h1
  · by_cases h2 : lo + k - 1 < x.toInt
    · exact Or.inr h2
    · exfalso
      have h3 := hv (x.toInt - lo).toNat (by omega)
      have h4 : lo + (((x.toInt - lo).toNat : Nat) : Int) = x.toInt := by omega
      rw [h4, Int32.ofInt_toInt] at h3
      exact hx x h3 rfl
def gs_ln (j : Nat) : Int32 := Int32.ofNat (gs_len.getD j 0)
def gs_chr (j : Nat) (i : Int32) : Option Int32 := if i < 0 ∨ gs_len.getD j 0 ≤ i.toNatClampNeg then none else some ((gs_byt.getD j []).getD i.toNatClampNeg 0)
def gs_find : List Int32 → Int32 → Int32 → Int32
  | [], _, _ => -1
  | b :: l, c, i => if b = c then i else gs_find l c (i + 1)
def gs_spot (j : Nat) (c : Int32) : Int32 := gs_find (gs_byt.getD j []) c 0
/-- System.arraycopy out of a static array -/
def gs_cpyX (M : gs_M) (j : Nat) (sp : Int32) (r1 k1 : Nat) (dp w : Int32) : Option gs_M := if sp < 0 ∨ dp < 0 ∨ w < 0 ∨ gs_sn j < sp.toNatClampNeg + w.toNatClampNeg ∨ k1 < dp.toNatClampNeg + w.toNatClampNeg then none else some (gs_row M r1 (va_cpy (gs_sv j) (M r1) sp.toNatClampNeg dp.toNatClampNeg w.toNatClampNeg))
section Ext
variable {X : gs_X} {own : String} {cc : ByteArray} {nL : Nat} {rt : Option FieldType} {n : Nat} {ls ls' : List (Nat × Value)} {st st0 : List Value} {M M' : gs_M} {L L' : gs_L}
theorem gs_acpyX (C : gs_C X own cc nL rt n) {pc i r1 k1 : Nat} {sp dp w : Int32} (j : Nat) (hj : j < 6) (hd : decode cc pc = .ok (.invokestatic i, 3)) (hm : Cond.methodLink own i arraycopyName ∈ gs_W) (h1 : gs_sh r1 = .inl (0, k1)) (hst : (st.map fun v => v.category).sum ≤ 8) (hv : gs_cpyX M j sp r1 k1 dp w = some M') (k : gs_AW X (pc + 3) ls st M' L) : gs_AW X pc ls (.int w :: .int dp :: .ref r1 :: .int sp :: .ref (1010 + j) :: st) M L := by
  sorry
theorem gs_strlen (C : gs_C X own cc nL rt n) {pc i : Nat} (j : Nat) (hj : j < 4) (hd : decode cc pc = .ok (.invokevirtual i, 3)) (hm : Cond.methodLink own i yJ0_length_8abf5 ∈ gs_W) (hn : 6 < n) (hst : (st.map fun v => v.category).sum ≤ 8) (k : gs_AW X (pc + 3) ls (.int (gs_ln j) :: st) M L) : gs_AW X pc ls (.ref (1000 + j) :: st) M L := by
  sorry
theorem gs_strchr (C : gs_C X own cc nL rt n) {pc i : Nat} {x v : Int32} (j : Nat) (hj : j < 4) (hd : decode cc pc = .ok (.invokevirtual i, 3)) (hm : Cond.methodLink own i yJ0_charAt_5068e ∈ gs_W) (hn : 8 < n) (hst : (st.map fun v => v.category).sum ≤ 8) (hv : gs_chr j x = some v) (k : gs_AW X (pc + 3) ls (.int v :: st) M L) : gs_AW X pc ls (.int x :: .ref (1000 + j) :: st) M L := by
  sorry
theorem gs_stridx (C : gs_C X own cc nL rt n) {pc i : Nat} {x : Int32} (j : Nat) (hj : j < 4) (hd : decode cc pc = .ok (.invokevirtual i, 3)) (hm : Cond.methodLink own i yJ0_indexOf_0f7a4 ∈ gs_W) (hn : 8 < n) (hst : (st.map fun v => v.category).sum ≤ 8) (k : gs_AW X (pc + 3) ls (.int (gs_spot j x) :: st) M L) : gs_AW X pc ls (.int x :: .ref (1000 + j) :: st) M L := by
  sorry
theorem gs_ldcSw (C : gs_C X own cc nL rt n) {pc : Nat} {i q : Nat} {tx : String} (hd : decode cc pc = .ok (.ldc_w i, 3)) (hw : (own, i, tx, q) ∈ gs_lit) (k : gs_AW X (pc + 3) ls (.ref q :: st) M L) : gs_AW X pc ls st M L := by
  obtain ⟨p, l, e, R, s, m, args, below, meth, c, Q, ad, D, dA⟩ := X
  obtain ⟨hx, hb, hml, hown, hts, hK, hinj, hE, hr, hlk, hR⟩ := C
  intro H locs la hl hP hS
  have hZ := hE.2.2.1 _ hw
  intro T hT X
  obtain ⟨t, a1, b1⟩ := k H locs la hl hP hS T hT X
  exact ⟨t, X.ldcStringW hx hown (text := tx) (a := ad q) hZ.1 hZ.2 (g := F0 m pc la (st.map (gs_cv ad))) rfl (by rw [hb]; exact hd) t a1, b1⟩
end Ext
